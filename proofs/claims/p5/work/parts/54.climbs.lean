/-! at most twelve codes RUNG in a text -/
def nr0 (f : Nat → Int) (p q : Nat) : Prop := p ≤ q ∧ ∀ k, p ≤ k → k < q → f k ≠ 1
theorem nr0.rf {f : Nat → Int} {p : Nat} : nr0 f p p := ⟨Nat.le_refl _, fun k a b => by omega⟩
theorem nr0.tr {f : Nat → Int} {p m q : Nat} (a : nr0 f p m) (b : nr0 f m q) : nr0 f p q := ⟨Nat.le_trans a.1 b.1, fun k x y => by
  by_cases c : k < m
  · exact a.2 k x c
  · exact b.2 k (by omega) y⟩
theorem nr0.one {f : Nat → Int} {p : Nat} (a : f p ≠ 1) : nr0 f p (p + 1) := ⟨Nat.le_succ _, fun k x y => by
  obtain rfl : k = p := by omega
  exact a⟩
theorem gg_tN.nr {f : Nat → Int} {I : Nat → Nat → Prop} {op : Int → Prop} (hI : ∀ p q, I p q → nr0 f p q) (ho : ∀ z, op z → z ≠ 1) : ∀ (n m q : Nat), gg_tN f I op n m q → nr0 f m q
  | 0, _, _, h => h.elim
  | n + 1, m, q, h => by
    rcases h with ⟨-, rfl⟩ | ⟨a, m1, b, c⟩
    · exact nr0.rf
    · exact ((nr0.one (ho _ a)).tr (hI _ _ b)).tr (gg_tN.nr hI ho n m1 q c)
theorem gg_s.nr {f : Nat → Int} {I : Nat → Nat → Prop} {op : Int → Prop} (hI : ∀ p q, I p q → nr0 f p q) (ho : ∀ z, op z → z ≠ 1) {p q : Nat} (h : gg_s f I op p q) : nr0 f p q := by
  obtain ⟨m, a, n, b⟩ := h
  exact (hI _ _ a).tr (gg_tN.nr hI ho n m q b)
theorem gg_mul1 (z : Int) (h : gg_mul z) : z ≠ 1 := by unfold gg_mul at h; omega
theorem gg_add1 (z : Int) (h : gg_add z) : z ≠ 1 := by unfold gg_add at h; omega
theorem gg_and1 (z : Int) (h : gg_and z) : z ≠ 1 := by unfold gg_and at h; omega
theorem gg_or1 (z : Int) (h : gg_or z) : z ≠ 1 := by unfold gg_or at h; omega
theorem gg_leaf.nr {f : Nat → Int} {p q : Nat} (h : gg_leaf f p q) : nr0 f p q := by
  rw [h.2]
  exact nr0.one (by have := h.1; omega)
theorem gg_part.nr (f : Nat → Int) : ∀ (d p q : Nat), gg_part f d p q → nr0 f p q
  | 0, p, q, h => gg_leaf.nr h
  | d + 1, p, q, h => by
    rcases h with h | ⟨h1, m, h2, h3, rfl⟩
    · exact gg_leaf.nr h
    · exact ((nr0.one (by omega)).tr (gg_s.nr (I := gg_s f (gg_part f d) gg_mul) (fun _ _ z => gg_s.nr (gg_part.nr f d) gg_mul1 z) gg_add1 h2)).tr (nr0.one (by omega))
theorem gg_sum.nr {f : Nat → Int} {d p q : Nat} (h : gg_sum f d p q) : nr0 f p q := gg_s.nr (I := gg_term f d) (fun _ _ z => gg_s.nr (gg_part.nr f d) gg_mul1 z) gg_add1 h
theorem gg_cmp.nr {f : Nat → Int} {d p q : Nat} (h : gg_cmp f d p q) : nr0 f p q := by
  obtain ⟨-, m, a, b, c⟩ := h
  exact ((gg_sum.nr a).tr (nr0.one (by omega))).tr (gg_sum.nr c)
theorem gg_nots.nr {f : Nat → Int} {I : Nat → Nat → Prop} (hI : ∀ p q, I p q → nr0 f p q) {p q : Nat} (h : gg_nots f I p q) : nr0 f p q := by
  obtain ⟨j, a, -, c⟩ := h
  have x : nr0 f p (p + j) := ⟨by omega, fun k y z => by
    have := a (k - p) (by omega)
    rw [show p + (k - p) = k by omega] at this
    omega⟩
  exact x.tr (hI _ _ c)
theorem gg_plain.nr (f : Nat → Int) : ∀ (d p q : Nat), gg_plain f d p q → nr0 f p q
  | 0, p, q, h => gg_nots.nr (I := gg_cmp f 0) (fun _ _ z => gg_cmp.nr z) h
  | d + 1, p, q, h => gg_nots.nr (fun a b x => by
    rcases x with x | ⟨x1, m, x2, x3, rfl⟩
    · exact gg_cmp.nr x
    · exact ((nr0.one (by omega)).tr (gg_s.nr (I := gg_s f (gg_plain f d) gg_and) (fun _ _ z => gg_s.nr (gg_plain.nr f d) gg_and1 z) gg_or1 x2)).tr (nr0.one (by omega))) h
theorem gg_test.nr {f : Nat → Int} {d p q : Nat} (h : gg_test f d p q) : nr0 f p q := gg_s.nr (I := gg_both f d) (fun _ _ z => gg_s.nr (gg_plain.nr f d) gg_and1 z) gg_or1 h
theorem gg_clause.nr {f : Nat → Int} {p q : Nat} (h : gg_clause f p q) : nr0 f (p + 1) q := by
  rcases h with ⟨-, a, b, c, rfl⟩ | ⟨m, hH, hI⟩
  · exact (((nr0.one (p := p + 1) (by omega)).tr (nr0.one (p := p + 2) (by omega))).tr (nr0.one (p := p + 3) (by omega)))
  · have x : nr0 f (p + 1) m := by
      rcases hH with ⟨-, a⟩ | ⟨-, rfl⟩
      · exact gg_sum.nr a
      · exact nr0.rf
    rcases hI with ⟨-, rfl⟩ | ⟨a, b⟩
    · exact x
    · exact (x.tr (nr0.one (by omega))).tr (gg_test.nr b)
def cn0 (f : Nat → Int) : Nat → Nat → Nat
  | _, 0 => 0
  | p, m + 1 => (if f p = 1 then 1 else 0) + cn0 f (p + 1) m
theorem cn0.add (f : Nat → Int) : ∀ (a b p : Nat), cn0 f p (a + b) = cn0 f p a + cn0 f (p + a) b
  | 0, b, p => by rw [Nat.zero_add, Nat.add_zero]; show _ = 0 + _; omega
  | a + 1, b, p => by
    rw [show a + 1 + b = (a + b) + 1 by omega]
    show (if f p = 1 then 1 else 0) + cn0 f (p + 1) (a + b) = ((if f p = 1 then 1 else 0) + cn0 f (p + 1) a) + cn0 f (p + (a + 1)) b
    rw [cn0.add f a b (p + 1), show p + 1 + a = p + (a + 1) by omega]
    omega
theorem nr0.cz {f : Nat → Int} : ∀ (m p : Nat), nr0 f p (p + m) → cn0 f p m = 0
  | 0, _, _ => rfl
  | m + 1, p, h => by
    show (if f p = 1 then 1 else 0) + cn0 f (p + 1) m = 0
    rw [if_neg (h.2 p (Nat.le_refl _) (by omega)), nr0.cz m (p + 1) ⟨by omega, fun k a b => h.2 k (by omega) (by omega)⟩]
theorem gg_text.cn {f : Nat → Int} {n : Nat} : ∀ (k p : Nat), gg_text f n k p → p ≤ n → cn0 f p (n - p) ≤ k
  | 0, _, h, _ => h.elim
  | k + 1, p, h, hp => by
    obtain ⟨m, hC, hN⟩ := h
    have x := hC.nr
    have hm : m ≤ n := by rcases hN with rfl | ⟨a, -⟩ <;> omega
    have e : n - p = (1 + (m - (p + 1))) + (n - m) := by have := x.1; omega
    have y : cn0 f p 1 ≤ 1 := by
      show (if f p = 1 then 1 else 0) + 0 ≤ 1
      split <;> omega
    have z : cn0 f (p + 1) (m - (p + 1)) = 0 := nr0.cz _ _ (by rw [show p + 1 + (m - (p + 1)) = m by have := x.1; omega]; exact x)
    rw [e, cn0.add, cn0.add, z, show p + (1 + (m - (p + 1))) = m by have := x.1; omega]
    rcases hN with rfl | ⟨a, b, c⟩
    · rw [Nat.sub_self]
      show cn0 f p 1 + 0 + 0 ≤ k + 1
      omega
    · rw [show n - m = 1 + (n - (m + 1)) by omega, cn0.add]
      have w : cn0 f m 1 = 0 := by
        show (if f m = 1 then 1 else 0) + 0 = 0
        rw [if_neg (by omega)]
      have v := gg_text.cn k (m + 1) c (by omega)
      omega
/-! the reference: isStone, climbs -/
theorem kb16_1292 : (Int16.ofInt 1292).toInt32 = Int32.ofInt 1292 := by decide
theorem kt_1292 : (Int32.ofInt 1292).toInt = 1292 := by decide
theorem dd_M_isStone_0 : decode prog_14_method_8_code 0 = .ok (.iload_n 1, 1) := by decide +kernel
theorem dd_M_isStone_1 : decode prog_14_method_8_code 1 = .ok (.iconst 0, 1) := by decide +kernel
theorem dd_M_isStone_2 : decode prog_14_method_8_code 2 = .ok (.aload_n 0, 1) := by decide +kernel
theorem dd_M_isStone_3 : decode prog_14_method_8_code 3 = .ok (.getfield 13, 3) := by decide +kernel
theorem dd_M_isStone_6 : decode prog_14_method_8_code 6 = .ok (.sipush 1292, 3) := by decide +kernel
theorem dd_M_isStone_9 : decode prog_14_method_8_code 9 = .ok (.iaload, 1) := by decide +kernel
theorem dd_M_isStone_10 : decode prog_14_method_8_code 10 = .ok (.iconst 1, 1) := by decide +kernel
theorem dd_M_isStone_11 : decode prog_14_method_8_code 11 = .ok (.isub, 1) := by decide +kernel
theorem dd_M_isStone_12 : decode prog_14_method_8_code 12 = .ok (.invokestatic 92, 3) := by decide +kernel
theorem dd_M_isStone_15 : decode prog_14_method_8_code 15 = .ok (.ireturn, 1) := by decide +kernel
theorem dd_M_climbs_0 : decode prog_14_method_83_code 0 = .ok (.aload_n 0, 1) := by decide +kernel
theorem dd_M_climbs_1 : decode prog_14_method_83_code 1 = .ok (.iconst 0, 1) := by decide +kernel
theorem dd_M_climbs_2 : decode prog_14_method_83_code 2 = .ok (.putfield 318, 3) := by decide +kernel
theorem dd_M_climbs_5 : decode prog_14_method_83_code 5 = .ok (.aload_n 0, 1) := by decide +kernel
theorem dd_M_climbs_6 : decode prog_14_method_83_code 6 = .ok (.getfield 13, 3) := by decide +kernel
theorem dd_M_climbs_9 : decode prog_14_method_83_code 9 = .ok (.sipush 1296, 3) := by decide +kernel
theorem dd_M_climbs_12 : decode prog_14_method_83_code 12 = .ok (.iaload, 1) := by decide +kernel
theorem dd_M_climbs_13 : decode prog_14_method_83_code 13 = .ok (.iconst (-1), 1) := by decide +kernel
theorem dd_M_climbs_14 : decode prog_14_method_83_code 14 = .ok (.if_icmp .ne 4, 3) := by decide +kernel
theorem dd_M_climbs_17 : decode prog_14_method_83_code 17 = .ok (.return_, 1) := by decide +kernel
theorem dd_M_climbs_18 : decode prog_14_method_83_code 18 = .ok (.sipush 400, 3) := by decide +kernel
theorem dd_M_climbs_21 : decode prog_14_method_83_code 21 = .ok (.aload_n 0, 1) := by decide +kernel
theorem dd_M_climbs_22 : decode prog_14_method_83_code 22 = .ok (.getfield 13, 3) := by decide +kernel
theorem dd_M_climbs_25 : decode prog_14_method_83_code 25 = .ok (.sipush 1296, 3) := by decide +kernel
theorem dd_M_climbs_28 : decode prog_14_method_83_code 28 = .ok (.iaload, 1) := by decide +kernel
theorem dd_M_climbs_29 : decode prog_14_method_83_code 29 = .ok (.imul, 1) := by decide +kernel
theorem dd_M_climbs_30 : decode prog_14_method_83_code 30 = .ok (.istore_n 1, 1) := by decide +kernel
theorem dd_M_climbs_31 : decode prog_14_method_83_code 31 = .ok (.aload_n 0, 1) := by decide +kernel
theorem dd_M_climbs_32 : decode prog_14_method_83_code 32 = .ok (.getfield 13, 3) := by decide +kernel
theorem dd_M_climbs_35 : decode prog_14_method_83_code 35 = .ok (.sipush 1300, 3) := by decide +kernel
theorem dd_M_climbs_38 : decode prog_14_method_83_code 38 = .ok (.aload_n 0, 1) := by decide +kernel
theorem dd_M_climbs_39 : decode prog_14_method_83_code 39 = .ok (.getfield 13, 3) := by decide +kernel
theorem dd_M_climbs_42 : decode prog_14_method_83_code 42 = .ok (.sipush 1296, 3) := by decide +kernel
theorem dd_M_climbs_45 : decode prog_14_method_83_code 45 = .ok (.iaload, 1) := by decide +kernel
theorem dd_M_climbs_46 : decode prog_14_method_83_code 46 = .ok (.iadd, 1) := by decide +kernel
theorem dd_M_climbs_47 : decode prog_14_method_83_code 47 = .ok (.iaload, 1) := by decide +kernel
theorem dd_M_climbs_48 : decode prog_14_method_83_code 48 = .ok (.istore_n 2, 1) := by decide +kernel
theorem dd_M_climbs_49 : decode prog_14_method_83_code 49 = .ok (.iconst 0, 1) := by decide +kernel
theorem dd_M_climbs_50 : decode prog_14_method_83_code 50 = .ok (.istore_n 3, 1) := by decide +kernel
theorem dd_M_climbs_51 : decode prog_14_method_83_code 51 = .ok (.iload_n 3, 1) := by decide +kernel
theorem dd_M_climbs_52 : decode prog_14_method_83_code 52 = .ok (.iconst 3, 1) := by decide +kernel
theorem dd_M_climbs_53 : decode prog_14_method_83_code 53 = .ok (.iadd, 1) := by decide +kernel
theorem dd_M_climbs_54 : decode prog_14_method_83_code 54 = .ok (.iload_n 2, 1) := by decide +kernel
theorem dd_M_climbs_55 : decode prog_14_method_83_code 55 = .ok (.if_icmp .ge 105, 3) := by decide +kernel
theorem dd_M_climbs_58 : decode prog_14_method_83_code 58 = .ok (.aload_n 0, 1) := by decide +kernel
theorem dd_M_climbs_59 : decode prog_14_method_83_code 59 = .ok (.getfield 13, 3) := by decide +kernel
theorem dd_M_climbs_62 : decode prog_14_method_83_code 62 = .ok (.sipush 1310, 3) := by decide +kernel
theorem dd_M_climbs_65 : decode prog_14_method_83_code 65 = .ok (.iload_n 1, 1) := by decide +kernel
theorem dd_M_climbs_66 : decode prog_14_method_83_code 66 = .ok (.iadd, 1) := by decide +kernel
theorem dd_M_climbs_67 : decode prog_14_method_83_code 67 = .ok (.iload_n 3, 1) := by decide +kernel
theorem dd_M_climbs_68 : decode prog_14_method_83_code 68 = .ok (.iadd, 1) := by decide +kernel
theorem dd_M_climbs_69 : decode prog_14_method_83_code 69 = .ok (.iaload, 1) := by decide +kernel
theorem dd_M_climbs_70 : decode prog_14_method_83_code 70 = .ok (.iconst 1, 1) := by decide +kernel
theorem dd_M_climbs_71 : decode prog_14_method_83_code 71 = .ok (.if_icmp .ne 83, 3) := by decide +kernel
theorem dd_M_climbs_74 : decode prog_14_method_83_code 74 = .ok (.aload_n 0, 1) := by decide +kernel
theorem dd_M_climbs_75 : decode prog_14_method_83_code 75 = .ok (.aload_n 0, 1) := by decide +kernel
theorem dd_M_climbs_76 : decode prog_14_method_83_code 76 = .ok (.getfield 13, 3) := by decide +kernel
theorem dd_M_climbs_79 : decode prog_14_method_83_code 79 = .ok (.sipush 5310, 3) := by decide +kernel
theorem dd_M_climbs_82 : decode prog_14_method_83_code 82 = .ok (.iload_n 1, 1) := by decide +kernel
theorem dd_M_climbs_83 : decode prog_14_method_83_code 83 = .ok (.iadd, 1) := by decide +kernel
theorem dd_M_climbs_84 : decode prog_14_method_83_code 84 = .ok (.iload_n 3, 1) := by decide +kernel
theorem dd_M_climbs_85 : decode prog_14_method_83_code 85 = .ok (.iadd, 1) := by decide +kernel
theorem dd_M_climbs_86 : decode prog_14_method_83_code 86 = .ok (.iconst 3, 1) := by decide +kernel
theorem dd_M_climbs_87 : decode prog_14_method_83_code 87 = .ok (.iadd, 1) := by decide +kernel
theorem dd_M_climbs_88 : decode prog_14_method_83_code 88 = .ok (.iaload, 1) := by decide +kernel
theorem dd_M_climbs_89 : decode prog_14_method_83_code 89 = .ok (.invokevirtual 107, 3) := by decide +kernel
theorem dd_M_climbs_92 : decode prog_14_method_83_code 92 = .ok (.ifCond .ne 6, 3) := by decide +kernel
theorem dd_M_climbs_95 : decode prog_14_method_83_code 95 = .ok (.goto 59, 3) := by decide +kernel
theorem dd_M_climbs_98 : decode prog_14_method_83_code 98 = .ok (.aload_n 0, 1) := by decide +kernel
theorem dd_M_climbs_99 : decode prog_14_method_83_code 99 = .ok (.getfield 70, 3) := by decide +kernel
theorem dd_M_climbs_102 : decode prog_14_method_83_code 102 = .ok (.aload_n 0, 1) := by decide +kernel
theorem dd_M_climbs_103 : decode prog_14_method_83_code 103 = .ok (.getfield 318, 3) := by decide +kernel
theorem dd_M_climbs_106 : decode prog_14_method_83_code 106 = .ok (.aload_n 0, 1) := by decide +kernel
theorem dd_M_climbs_107 : decode prog_14_method_83_code 107 = .ok (.getfield 13, 3) := by decide +kernel
theorem dd_M_climbs_110 : decode prog_14_method_83_code 110 = .ok (.sipush 5310, 3) := by decide +kernel
theorem dd_M_climbs_113 : decode prog_14_method_83_code 113 = .ok (.iload_n 1, 1) := by decide +kernel
theorem dd_M_climbs_114 : decode prog_14_method_83_code 114 = .ok (.iadd, 1) := by decide +kernel
theorem dd_M_climbs_115 : decode prog_14_method_83_code 115 = .ok (.iload_n 3, 1) := by decide +kernel
theorem dd_M_climbs_116 : decode prog_14_method_83_code 116 = .ok (.iadd, 1) := by decide +kernel
theorem dd_M_climbs_117 : decode prog_14_method_83_code 117 = .ok (.iconst 1, 1) := by decide +kernel
theorem dd_M_climbs_118 : decode prog_14_method_83_code 118 = .ok (.iadd, 1) := by decide +kernel
theorem dd_M_climbs_119 : decode prog_14_method_83_code 119 = .ok (.iaload, 1) := by decide +kernel
theorem dd_M_climbs_120 : decode prog_14_method_83_code 120 = .ok (.iastore, 1) := by decide +kernel
theorem dd_M_climbs_121 : decode prog_14_method_83_code 121 = .ok (.aload_n 0, 1) := by decide +kernel
theorem dd_M_climbs_122 : decode prog_14_method_83_code 122 = .ok (.getfield 67, 3) := by decide +kernel
theorem dd_M_climbs_125 : decode prog_14_method_83_code 125 = .ok (.aload_n 0, 1) := by decide +kernel
theorem dd_M_climbs_126 : decode prog_14_method_83_code 126 = .ok (.getfield 318, 3) := by decide +kernel
theorem dd_M_climbs_129 : decode prog_14_method_83_code 129 = .ok (.aload_n 0, 1) := by decide +kernel
theorem dd_M_climbs_130 : decode prog_14_method_83_code 130 = .ok (.getfield 13, 3) := by decide +kernel
theorem dd_M_climbs_133 : decode prog_14_method_83_code 133 = .ok (.sipush 5310, 3) := by decide +kernel
theorem dd_M_climbs_136 : decode prog_14_method_83_code 136 = .ok (.iload_n 1, 1) := by decide +kernel
theorem dd_M_climbs_137 : decode prog_14_method_83_code 137 = .ok (.iadd, 1) := by decide +kernel
theorem dd_M_climbs_138 : decode prog_14_method_83_code 138 = .ok (.iload_n 3, 1) := by decide +kernel
theorem dd_M_climbs_139 : decode prog_14_method_83_code 139 = .ok (.iadd, 1) := by decide +kernel
theorem dd_M_climbs_140 : decode prog_14_method_83_code 140 = .ok (.iconst 3, 1) := by decide +kernel
theorem dd_M_climbs_141 : decode prog_14_method_83_code 141 = .ok (.iadd, 1) := by decide +kernel
theorem dd_M_climbs_142 : decode prog_14_method_83_code 142 = .ok (.iaload, 1) := by decide +kernel
theorem dd_M_climbs_143 : decode prog_14_method_83_code 143 = .ok (.iastore, 1) := by decide +kernel
theorem dd_M_climbs_144 : decode prog_14_method_83_code 144 = .ok (.aload_n 0, 1) := by decide +kernel
theorem dd_M_climbs_145 : decode prog_14_method_83_code 145 = .ok (.dup, 1) := by decide +kernel
theorem dd_M_climbs_146 : decode prog_14_method_83_code 146 = .ok (.getfield 318, 3) := by decide +kernel
theorem dd_M_climbs_149 : decode prog_14_method_83_code 149 = .ok (.iconst 1, 1) := by decide +kernel
theorem dd_M_climbs_150 : decode prog_14_method_83_code 150 = .ok (.iadd, 1) := by decide +kernel
theorem dd_M_climbs_151 : decode prog_14_method_83_code 151 = .ok (.putfield 318, 3) := by decide +kernel
theorem dd_M_climbs_154 : decode prog_14_method_83_code 154 = .ok (.iinc 3 1, 3) := by decide +kernel
theorem dd_M_climbs_157 : decode prog_14_method_83_code 157 = .ok (.goto (-106), 3) := by decide +kernel
theorem dd_M_climbs_160 : decode prog_14_method_83_code 160 = .ok (.return_, 1) := by decide +kernel

def hc_isStone : mm_C := (181, (1, 30, 0, 0), (fun us h => rr_A h ∧ (0 ≤ (h.2.2.1 78 1292).toInt ∧ (h.2.2.1 78 1292).toInt ≤ 12) ∧ ∃ s : Int32, us = [mm_A (some 77), mm_I s]), fun us h r h' => h = h' ∧ match us with
  | [_, .inl s] => (r = some (mm_I 1) ∧ 0 ≤ s.toInt ∧ s.toInt ≤ (h.2.2.1 78 1292).toInt - 1) ∨ (r = some (mm_I 0) ∧ ¬ (0 ≤ s.toInt ∧ s.toInt ≤ (h.2.2.1 78 1292).toInt - 1))
  | _ => False)
theorem hh_isStone {Rt : Option mm_v → mm_h → Nat × Nat → Prop} (s : Int32) (h : mm_h) (hA : rr_A h) (hs : 0 ≤ (h.2.2.1 78 1292).toInt ∧ (h.2.2.1 78 1292).toInt ≤ 12) (K1 : 0 ≤ s.toInt → s.toInt ≤ (h.2.2.1 78 1292).toInt - 1 → Rt (some (mm_I 1)) h (0, 0)) (K0 : ¬ (0 ≤ s.toInt ∧ s.toInt ≤ (h.2.2.1 78 1292).toInt - 1) → Rt (some (mm_I 0)) h (0, 0)) :
    mm_W vwCl ck_dt ck_mts ck_T13 [hc_in] false 2 0 0 (1) (30) prog_14_method_8_code (some .boolean) Rt (0, [(0, mm_A (some 77)), (1, mm_I s)], [], h, 0, 0) := by
  refine mm_go_ok [12] (N := fun z => mm_W vwCl ck_dt ck_mts ck_T13 [hc_in] false 2 0 0 (1) (30) prog_14_method_8_code (some .boolean) Rt z) (fun z h => h) 12 _ ?_
  simp only [mm_nn2, mm_one, mm_grp, mm_a, mm_b, mm_c, mm_bop, mm_d, mm_e, mm_ld, mm_sw, mm_k, mm_rt, mm_get, mm_put, mm_put2, mm_two, mm_rf, ck_tg, ck_chold, ck_cneg, List.elem_cons, List.elem_nil, List.find?_cons, List.filter_cons, List.filter_nil, Option.map_some, Nat.reduceBEq, Nat.reduceAdd, Bool.or_false, Bool.false_or, Bool.or_true, Bool.true_or, beq_self_eq_true, Bool.not_false, Bool.not_true, Bool.and_true, Bool.true_and, Bool.and_false, Bool.false_and, Bool.false_eq_true, ↓reduceIte, Fin.isValue, mm_f0, mm_f1, mm_f2, mm_f3, Nat.zero_mod, Nat.reduceMod, Option.some.injEq, Sum.inl.injEq, Sum.inr.injEq, exists_eq_left', List.find?_nil, List.length_cons, List.length_nil, true_and, and_true, Nat.reduceLT, Nat.reduceEqDiff, Int.reduceLE, Int.reduceAdd, Int.reduceToNat, Int.cast_ofNat_Int, Int.reduceNeg, Nat.reduceBeqDiff, Nat.zero_add, Prod.mk.injEq, mm_si_n, mm_si_s, mm_si_r, Option.toList_some, Option.toList_none, List.cons_append, List.nil_append, exists_eq', exists_eq, reduceCtorEq, false_and, and_false, false_or, or_false, exists_false, eq_self, and_self, mm_si_i, Int.reduceLT, mm_go_s dd_M_isStone_0, mm_go_s dd_M_isStone_1, mm_go_s dd_M_isStone_2, mm_go_s dd_M_isStone_3, mm_go_s dd_M_isStone_6, mm_go_s dd_M_isStone_9, mm_go_s dd_M_isStone_10, mm_go_s dd_M_isStone_11, mm_go_s dd_M_isStone_12, mm_go_s dd_M_isStone_15, kt_0, kt_1, kb16_1292, kt_1292, gf13_13, ml13_92, rr_lt hA, rr_s77 hA, rr_s78 hA, rr_s79 hA, rr_s80 hA, rr_s81 hA, rr_s82 hA, rr_s83 hA, rr_s84 hA, rr_s85 hA, rr_s86 hA, rr_s87 hA, rr_s88 hA, rr_s89 hA, rr_s90 hA, rr_s91 hA, rr_s92 hA, rr_s93 hA, rr_s94 hA, rr_s95 hA, rr_s96 hA, rr_s97 hA, rr_s98 hA, rr_s99 hA, rr_s100 hA, rr_r1 hA, rr_r2 hA, rr_r3 hA, rr_r4 hA, rr_r5 hA, rr_r6 hA, rr_r9 hA, rr_r10 hA, rr_r11 hA, rr_r19 hA, rr_r24 hA, rr_r25 hA, rr_r26 hA, rr_r27 hA, rr_r28 hA, rr_r30 hA, rr_r31 hA, rr_r35 hA, rr_r36 hA, rr_r37 hA, rr_r38 hA, rr_r39 hA, rr_r40 hA]
  have m1 : (h.2.2.1 78 1292 - Int32.ofInt 1).toInt = (h.2.2.1 78 1292).toInt - 1 := by rw [ck_subI (by rw [kt_1]; omega) (by rw [kt_1]; omega), kt_1]
  refine rr_callS (92, 1, 174) ck_m174 hc_in [mm_I s, mm_I (Int32.ofInt 0), mm_I (h.2.2.1 78 1292 - Int32.ofInt 1)] [] dd_M_isStone_12 rfl ml13_92 (by decide) rfl rfl (List.Mem.head _) rfl rfl (Nat.le_of_ble_eq_true rfl) ⟨by simp only [hc_in]; omega, by simp only [hc_in, ck_m174]; omega⟩ rfl ⟨_, _, _, rfl⟩ ?_
  rintro r h' ⟨e, v, a, b, eu, hr⟩
  subst e
  obtain ⟨rfl, rfl, rfl⟩ : s = v ∧ Int32.ofInt 0 = a ∧ h'.2.2.1 78 1292 - Int32.ofInt 1 = b := ⟨Sum.inl.inj (List.cons.inj eu).1, Sum.inl.inj (List.cons.inj (List.cons.inj eu).2).1, Sum.inl.inj (List.cons.inj (List.cons.inj (List.cons.inj eu).2).2).1⟩
  rw [kt_0, m1] at hr
  rcases hr with ⟨q1, q2, rfl⟩ | ⟨q1, rfl⟩
  · refine mm_go_ok [] (N := fun z => mm_W vwCl ck_dt ck_mts ck_T13 [hc_in] false 2 0 0 (1) (30) prog_14_method_8_code (some .boolean) Rt z) (fun z h => h) 3 _ ?_
    simp only [mm_nn2, mm_one, mm_grp, mm_a, mm_b, mm_c, mm_bop, mm_d, mm_e, mm_ld, mm_sw, mm_k, mm_rt, mm_get, mm_put, mm_put2, mm_two, mm_rf, ck_tg, ck_chold, ck_cneg, List.elem_cons, List.elem_nil, List.find?_cons, List.filter_cons, List.filter_nil, Option.map_some, Nat.reduceBEq, Nat.reduceAdd, Bool.or_false, Bool.false_or, Bool.or_true, Bool.true_or, beq_self_eq_true, Bool.not_false, Bool.not_true, Bool.and_true, Bool.true_and, Bool.and_false, Bool.false_and, Bool.false_eq_true, ↓reduceIte, Fin.isValue, mm_f0, mm_f1, mm_f2, mm_f3, Nat.zero_mod, Nat.reduceMod, Option.some.injEq, Sum.inl.injEq, Sum.inr.injEq, exists_eq_left', List.find?_nil, List.length_cons, List.length_nil, true_and, and_true, Nat.reduceLT, Nat.reduceEqDiff, Int.reduceLE, Int.reduceAdd, Int.reduceToNat, Int.cast_ofNat_Int, Int.reduceNeg, Nat.reduceBeqDiff, Nat.zero_add, Prod.mk.injEq, mm_si_n, mm_si_s, mm_si_r, Option.toList_some, Option.toList_none, List.cons_append, List.nil_append, exists_eq', exists_eq, reduceCtorEq, false_and, and_false, false_or, or_false, exists_false, eq_self, and_self, mm_si_i, Int.reduceLT, mm_go_s dd_M_isStone_0, mm_go_s dd_M_isStone_1, mm_go_s dd_M_isStone_2, mm_go_s dd_M_isStone_3, mm_go_s dd_M_isStone_6, mm_go_s dd_M_isStone_9, mm_go_s dd_M_isStone_10, mm_go_s dd_M_isStone_11, mm_go_s dd_M_isStone_12, mm_go_s dd_M_isStone_15, kt_0, kt_1, kb16_1292, kt_1292, gf13_13, ml13_92]
    exact ⟨by decide, K1 q1 q2⟩
  · refine mm_go_ok [] (N := fun z => mm_W vwCl ck_dt ck_mts ck_T13 [hc_in] false 2 0 0 (1) (30) prog_14_method_8_code (some .boolean) Rt z) (fun z h => h) 3 _ ?_
    simp only [mm_nn2, mm_one, mm_grp, mm_a, mm_b, mm_c, mm_bop, mm_d, mm_e, mm_ld, mm_sw, mm_k, mm_rt, mm_get, mm_put, mm_put2, mm_two, mm_rf, ck_tg, ck_chold, ck_cneg, List.elem_cons, List.elem_nil, List.find?_cons, List.filter_cons, List.filter_nil, Option.map_some, Nat.reduceBEq, Nat.reduceAdd, Bool.or_false, Bool.false_or, Bool.or_true, Bool.true_or, beq_self_eq_true, Bool.not_false, Bool.not_true, Bool.and_true, Bool.true_and, Bool.and_false, Bool.false_and, Bool.false_eq_true, ↓reduceIte, Fin.isValue, mm_f0, mm_f1, mm_f2, mm_f3, Nat.zero_mod, Nat.reduceMod, Option.some.injEq, Sum.inl.injEq, Sum.inr.injEq, exists_eq_left', List.find?_nil, List.length_cons, List.length_nil, true_and, and_true, Nat.reduceLT, Nat.reduceEqDiff, Int.reduceLE, Int.reduceAdd, Int.reduceToNat, Int.cast_ofNat_Int, Int.reduceNeg, Nat.reduceBeqDiff, Nat.zero_add, Prod.mk.injEq, mm_si_n, mm_si_s, mm_si_r, Option.toList_some, Option.toList_none, List.cons_append, List.nil_append, exists_eq', exists_eq, reduceCtorEq, false_and, and_false, false_or, or_false, exists_false, eq_self, and_self, mm_si_i, Int.reduceLT, mm_go_s dd_M_isStone_0, mm_go_s dd_M_isStone_1, mm_go_s dd_M_isStone_2, mm_go_s dd_M_isStone_3, mm_go_s dd_M_isStone_6, mm_go_s dd_M_isStone_9, mm_go_s dd_M_isStone_10, mm_go_s dd_M_isStone_11, mm_go_s dd_M_isStone_12, mm_go_s dd_M_isStone_15, kt_0, kt_1, kb16_1292, kt_1292, gf13_13, ml13_92]
    exact ⟨by decide, K0 q1⟩
theorem hk_isStone (l : Launch) (D : va_G) (st : Nat → Nat)   : hh_Met l D st (hc_isStone ) := by
  refine mm_sound (T := ck_T13) (cs := [hc_in]) l ck_TSgood ck_okCl ck_okDt (M0 := ck_m181) rfl (by decide +kernel) ck_okT13 (List.forall_mem_cons.mpr ⟨hk_in l D st , ck_nil⟩) ?_
  rintro us h - ⟨hA, hs, s, rfl⟩
  exact ⟨Nat.le_of_ble_eq_true rfl, hh_isStone s h hA hs (fun a b => ⟨Nat.le_refl _, Nat.le_refl _, Nat.le_refl _, rfl, Or.inl ⟨rfl, a, b⟩⟩) (fun a => ⟨Nat.le_refl _, Nat.le_refl _, Nat.le_refl _, rfl, Or.inr ⟨rfl, a⟩⟩)⟩

def cl_F (c p : Nat) : Prop := (c = 77 ∧ p = 32) ∨ (c = 93 ∧ p < 12) ∨ (c = 94 ∧ p < 12)
def cl_Q (h h' : mm_h) : Prop := rr_fr cl_F h h' ∧ (0 ≤ (h'.2.2.1 77 32).toInt ∧ (h'.2.2.1 77 32).toInt ≤ 12) ∧ ∀ t, t < 12 → 0 ≤ (h'.2.2.1 93 t).toInt ∧ (h'.2.2.1 93 t).toInt ≤ 11
set_option maxRecDepth 8000 in
theorem hh_climbs_l {Rt : Option mm_v → mm_h → Nat × Nat → Prop} (h0 : mm_h) (n T : Nat) (hA0 : rr_A h0) (hs : 0 ≤ (h0.2.2.1 78 1292).toInt ∧ (h0.2.2.1 78 1292).toInt ≤ 12) (hn : n ≤ 400) (hT : T < 10) (f : Nat → Int) (hf : ∀ k, k < n → f k = (h0.2.2.1 78 (1310 + 400 * T + k)).toInt) (a b : Int32) (ha : a.toInt = ((400 * T : Nat) : Int)) (hb : b.toInt = n) (K : ∀ h', cl_Q h0 h' → Rt none h' (0, 0)) :
    ∀ (d k r : Nat) (i : Int32) (h : mm_h), n - k ≤ d → k ≤ n → i.toInt = k → rr_fr cl_F h0 h → (h.2.2.1 77 32).toInt = r → r + cn0 f k (n - k) ≤ 12 → (∀ t, t < 12 → 0 ≤ (h.2.2.1 93 t).toInt ∧ (h.2.2.1 93 t).toInt ≤ 11) → mm_W vwCl ck_dt ck_mts ck_T13 [hc_isStone] false 4 0 0 (2) (60) prog_14_method_83_code none Rt (51, [(3, mm_I i), (2, mm_I b), (1, mm_I a), (0, mm_A (some 77))], [], h, 0, 0) := by
  intro d
  induction d with
  | zero =>
    intro k r i h hd hk hi f0 hr hc h93
    have m0 : (i + Int32.ofInt 3).toInt = k + 3 := by rw [ck_addI (by rw [kt_3, hi]; omega) (by rw [kt_3, hi]; omega), kt_3, hi]
    refine mm_go_ok [58] (N := fun z => mm_W vwCl ck_dt ck_mts ck_T13 [hc_isStone] false 4 0 0 (2) (60) prog_14_method_83_code none Rt z) (fun z h => h) 8 _ ?_
    simp only [mm_nn2, mm_one, mm_grp, mm_a, mm_b, mm_c, mm_bop, mm_d, mm_e, mm_ld, mm_sw, mm_k, mm_rt, mm_get, mm_put, mm_put2, mm_two, mm_rf, ck_tg, ck_chold, ck_cneg, List.elem_cons, List.elem_nil, List.find?_cons, List.filter_cons, List.filter_nil, Option.map_some, Nat.reduceBEq, Nat.reduceAdd, Bool.or_false, Bool.false_or, Bool.or_true, Bool.true_or, beq_self_eq_true, Bool.not_false, Bool.not_true, Bool.and_true, Bool.true_and, Bool.and_false, Bool.false_and, Bool.false_eq_true, ↓reduceIte, Fin.isValue, mm_f0, mm_f1, mm_f2, mm_f3, Nat.zero_mod, Nat.reduceMod, Option.some.injEq, Sum.inl.injEq, Sum.inr.injEq, exists_eq_left', List.find?_nil, List.length_cons, List.length_nil, true_and, and_true, Nat.reduceLT, Nat.reduceEqDiff, Int.reduceLE, Int.reduceAdd, Int.reduceToNat, Int.cast_ofNat_Int, Int.reduceNeg, Nat.reduceBeqDiff, Nat.zero_add, Prod.mk.injEq, mm_si_n, mm_si_s, mm_si_r, Option.toList_some, Option.toList_none, List.cons_append, List.nil_append, exists_eq', exists_eq, reduceCtorEq, false_and, and_false, false_or, or_false, exists_false, eq_self, and_self, mm_si_i, Int.reduceLT, mm_go_s dd_M_climbs_0, mm_go_s dd_M_climbs_1, mm_go_s dd_M_climbs_2, mm_go_s dd_M_climbs_5, mm_go_s dd_M_climbs_6, mm_go_s dd_M_climbs_9, mm_go_s dd_M_climbs_12, mm_go_s dd_M_climbs_13, mm_go_s dd_M_climbs_14, mm_go_s dd_M_climbs_17, mm_go_s dd_M_climbs_18, mm_go_s dd_M_climbs_21, mm_go_s dd_M_climbs_22, mm_go_s dd_M_climbs_25, mm_go_s dd_M_climbs_28, mm_go_s dd_M_climbs_29, mm_go_s dd_M_climbs_30, mm_go_s dd_M_climbs_31, mm_go_s dd_M_climbs_32, mm_go_s dd_M_climbs_35, mm_go_s dd_M_climbs_38, mm_go_s dd_M_climbs_39, mm_go_s dd_M_climbs_42, mm_go_s dd_M_climbs_45, mm_go_s dd_M_climbs_46, mm_go_s dd_M_climbs_47, mm_go_s dd_M_climbs_48, mm_go_s dd_M_climbs_49, mm_go_s dd_M_climbs_50, mm_go_s dd_M_climbs_51, mm_go_s dd_M_climbs_52, mm_go_s dd_M_climbs_53, mm_go_s dd_M_climbs_54, mm_go_s dd_M_climbs_55, mm_go_s dd_M_climbs_58, mm_go_s dd_M_climbs_59, mm_go_s dd_M_climbs_62, mm_go_s dd_M_climbs_65, mm_go_s dd_M_climbs_66, mm_go_s dd_M_climbs_67, mm_go_s dd_M_climbs_68, mm_go_s dd_M_climbs_69, mm_go_s dd_M_climbs_70, mm_go_s dd_M_climbs_71, mm_go_s dd_M_climbs_74, mm_go_s dd_M_climbs_75, mm_go_s dd_M_climbs_76, mm_go_s dd_M_climbs_79, mm_go_s dd_M_climbs_82, mm_go_s dd_M_climbs_83, mm_go_s dd_M_climbs_84, mm_go_s dd_M_climbs_85, mm_go_s dd_M_climbs_86, mm_go_s dd_M_climbs_87, mm_go_s dd_M_climbs_88, mm_go_s dd_M_climbs_89, mm_go_s dd_M_climbs_92, mm_go_s dd_M_climbs_95, mm_go_s dd_M_climbs_98, mm_go_s dd_M_climbs_99, mm_go_s dd_M_climbs_102, mm_go_s dd_M_climbs_103, mm_go_s dd_M_climbs_106, mm_go_s dd_M_climbs_107, mm_go_s dd_M_climbs_110, mm_go_s dd_M_climbs_113, mm_go_s dd_M_climbs_114, mm_go_s dd_M_climbs_115, mm_go_s dd_M_climbs_116, mm_go_s dd_M_climbs_117, mm_go_s dd_M_climbs_118, mm_go_s dd_M_climbs_119, mm_go_s dd_M_climbs_120, mm_go_s dd_M_climbs_121, mm_go_s dd_M_climbs_122, mm_go_s dd_M_climbs_125, mm_go_s dd_M_climbs_126, mm_go_s dd_M_climbs_129, mm_go_s dd_M_climbs_130, mm_go_s dd_M_climbs_133, mm_go_s dd_M_climbs_136, mm_go_s dd_M_climbs_137, mm_go_s dd_M_climbs_138, mm_go_s dd_M_climbs_139, mm_go_s dd_M_climbs_140, mm_go_s dd_M_climbs_141, mm_go_s dd_M_climbs_142, mm_go_s dd_M_climbs_143, mm_go_s dd_M_climbs_144, mm_go_s dd_M_climbs_145, mm_go_s dd_M_climbs_146, mm_go_s dd_M_climbs_149, mm_go_s dd_M_climbs_150, mm_go_s dd_M_climbs_151, mm_go_s dd_M_climbs_154, mm_go_s dd_M_climbs_157, mm_go_s dd_M_climbs_160, kt_m1, kt_0, kt_1, kt_3, kz, kb16_400, kt_400, kb16_1296, kt_1296, kb16_1300, kt_1300, kb16_1310, kt_1310, kb16_5310, kt_5310, pf13_318, gf13_13, gf13_70, gf13_318, gf13_67]
    exact ⟨fun _ => K _ ⟨f0, by omega, h93⟩, fun c => by omega⟩
  | succ d ih =>
    intro k r i h hd hk hi f0 hr hc h93
    have hA := f0.A hA0
    have m0 : (i + Int32.ofInt 3).toInt = k + 3 := by rw [ck_addI (by rw [kt_3, hi]; omega) (by rw [kt_3, hi]; omega), kt_3, hi]
    have m1 : (Int32.ofInt 1310 + a).toInt = ((1310 + 400 * T : Nat) : Int) := by rw [ck_addI (by rw [kt_1310, ha]; omega) (by rw [kt_1310, ha]; omega), kt_1310, ha]; omega
    have m2 : (Int32.ofInt 1310 + a + i).toInt = ((1310 + 400 * T + k : Nat) : Int) := by rw [ck_addI (by rw [m1, hi]; omega) (by rw [m1, hi]; omega), m1, hi]; omega
    have m3 : (Int32.ofInt 5310 + a).toInt = ((5310 + 400 * T : Nat) : Int) := by rw [ck_addI (by rw [kt_5310, ha]; omega) (by rw [kt_5310, ha]; omega), kt_5310, ha]; omega
    have m4 : (Int32.ofInt 5310 + a + i).toInt = ((5310 + 400 * T + k : Nat) : Int) := by rw [ck_addI (by rw [m3, hi]; omega) (by rw [m3, hi]; omega), m3, hi]; omega
    have m5 : (Int32.ofInt 5310 + a + i + Int32.ofInt 3).toInt = ((5310 + 400 * T + k + 3 : Nat) : Int) := by rw [ck_addI (by rw [m4, kt_3]; omega) (by rw [m4, kt_3]; omega), m4, kt_3]; omega
    have m6 : (Int32.ofInt 5310 + a + i + Int32.ofInt 1).toInt = ((5310 + 400 * T + k + 1 : Nat) : Int) := by rw [ck_addI (by rw [m4, kt_1]; omega) (by rw [m4, kt_1]; omega), m4, kt_1]; omega
    have m7 : (i + Int32.ofInt 1).toInt = ((k + 1 : Nat) : Int) := by rw [ck_addI (by rw [kt_1, hi]; omega) (by rw [kt_1, hi]; omega), kt_1, hi]; omega
    by_cases hkn : k = n
    · refine mm_go_ok [58] (N := fun z => mm_W vwCl ck_dt ck_mts ck_T13 [hc_isStone] false 4 0 0 (2) (60) prog_14_method_83_code none Rt z) (fun z h => h) 8 _ ?_
      simp only [mm_nn2, mm_one, mm_grp, mm_a, mm_b, mm_c, mm_bop, mm_d, mm_e, mm_ld, mm_sw, mm_k, mm_rt, mm_get, mm_put, mm_put2, mm_two, mm_rf, ck_tg, ck_chold, ck_cneg, List.elem_cons, List.elem_nil, List.find?_cons, List.filter_cons, List.filter_nil, Option.map_some, Nat.reduceBEq, Nat.reduceAdd, Bool.or_false, Bool.false_or, Bool.or_true, Bool.true_or, beq_self_eq_true, Bool.not_false, Bool.not_true, Bool.and_true, Bool.true_and, Bool.and_false, Bool.false_and, Bool.false_eq_true, ↓reduceIte, Fin.isValue, mm_f0, mm_f1, mm_f2, mm_f3, Nat.zero_mod, Nat.reduceMod, Option.some.injEq, Sum.inl.injEq, Sum.inr.injEq, exists_eq_left', List.find?_nil, List.length_cons, List.length_nil, true_and, and_true, Nat.reduceLT, Nat.reduceEqDiff, Int.reduceLE, Int.reduceAdd, Int.reduceToNat, Int.cast_ofNat_Int, Int.reduceNeg, Nat.reduceBeqDiff, Nat.zero_add, Prod.mk.injEq, mm_si_n, mm_si_s, mm_si_r, Option.toList_some, Option.toList_none, List.cons_append, List.nil_append, exists_eq', exists_eq, reduceCtorEq, false_and, and_false, false_or, or_false, exists_false, eq_self, and_self, mm_si_i, Int.reduceLT, mm_go_s dd_M_climbs_0, mm_go_s dd_M_climbs_1, mm_go_s dd_M_climbs_2, mm_go_s dd_M_climbs_5, mm_go_s dd_M_climbs_6, mm_go_s dd_M_climbs_9, mm_go_s dd_M_climbs_12, mm_go_s dd_M_climbs_13, mm_go_s dd_M_climbs_14, mm_go_s dd_M_climbs_17, mm_go_s dd_M_climbs_18, mm_go_s dd_M_climbs_21, mm_go_s dd_M_climbs_22, mm_go_s dd_M_climbs_25, mm_go_s dd_M_climbs_28, mm_go_s dd_M_climbs_29, mm_go_s dd_M_climbs_30, mm_go_s dd_M_climbs_31, mm_go_s dd_M_climbs_32, mm_go_s dd_M_climbs_35, mm_go_s dd_M_climbs_38, mm_go_s dd_M_climbs_39, mm_go_s dd_M_climbs_42, mm_go_s dd_M_climbs_45, mm_go_s dd_M_climbs_46, mm_go_s dd_M_climbs_47, mm_go_s dd_M_climbs_48, mm_go_s dd_M_climbs_49, mm_go_s dd_M_climbs_50, mm_go_s dd_M_climbs_51, mm_go_s dd_M_climbs_52, mm_go_s dd_M_climbs_53, mm_go_s dd_M_climbs_54, mm_go_s dd_M_climbs_55, mm_go_s dd_M_climbs_58, mm_go_s dd_M_climbs_59, mm_go_s dd_M_climbs_62, mm_go_s dd_M_climbs_65, mm_go_s dd_M_climbs_66, mm_go_s dd_M_climbs_67, mm_go_s dd_M_climbs_68, mm_go_s dd_M_climbs_69, mm_go_s dd_M_climbs_70, mm_go_s dd_M_climbs_71, mm_go_s dd_M_climbs_74, mm_go_s dd_M_climbs_75, mm_go_s dd_M_climbs_76, mm_go_s dd_M_climbs_79, mm_go_s dd_M_climbs_82, mm_go_s dd_M_climbs_83, mm_go_s dd_M_climbs_84, mm_go_s dd_M_climbs_85, mm_go_s dd_M_climbs_86, mm_go_s dd_M_climbs_87, mm_go_s dd_M_climbs_88, mm_go_s dd_M_climbs_89, mm_go_s dd_M_climbs_92, mm_go_s dd_M_climbs_95, mm_go_s dd_M_climbs_98, mm_go_s dd_M_climbs_99, mm_go_s dd_M_climbs_102, mm_go_s dd_M_climbs_103, mm_go_s dd_M_climbs_106, mm_go_s dd_M_climbs_107, mm_go_s dd_M_climbs_110, mm_go_s dd_M_climbs_113, mm_go_s dd_M_climbs_114, mm_go_s dd_M_climbs_115, mm_go_s dd_M_climbs_116, mm_go_s dd_M_climbs_117, mm_go_s dd_M_climbs_118, mm_go_s dd_M_climbs_119, mm_go_s dd_M_climbs_120, mm_go_s dd_M_climbs_121, mm_go_s dd_M_climbs_122, mm_go_s dd_M_climbs_125, mm_go_s dd_M_climbs_126, mm_go_s dd_M_climbs_129, mm_go_s dd_M_climbs_130, mm_go_s dd_M_climbs_133, mm_go_s dd_M_climbs_136, mm_go_s dd_M_climbs_137, mm_go_s dd_M_climbs_138, mm_go_s dd_M_climbs_139, mm_go_s dd_M_climbs_140, mm_go_s dd_M_climbs_141, mm_go_s dd_M_climbs_142, mm_go_s dd_M_climbs_143, mm_go_s dd_M_climbs_144, mm_go_s dd_M_climbs_145, mm_go_s dd_M_climbs_146, mm_go_s dd_M_climbs_149, mm_go_s dd_M_climbs_150, mm_go_s dd_M_climbs_151, mm_go_s dd_M_climbs_154, mm_go_s dd_M_climbs_157, mm_go_s dd_M_climbs_160, kt_m1, kt_0, kt_1, kt_3, kz, kb16_400, kt_400, kb16_1296, kt_1296, kb16_1300, kt_1300, kb16_1310, kt_1310, kb16_5310, kt_5310, pf13_318, gf13_13, gf13_70, gf13_318, gf13_67]
      exact ⟨fun _ => K _ ⟨f0, by omega, h93⟩, fun c => by omega⟩
    have hcn : cn0 f k (n - k) = (if f k = 1 then 1 else 0) + cn0 f (k + 1) (n - (k + 1)) := by
      rw [show n - k = (n - (k + 1)) + 1 by omega]
      rfl
    have skip : ∀ r' h', rr_fr cl_F h0 h' → (h'.2.2.1 77 32).toInt = ((r' : Nat) : Int) → r' + cn0 f (k + 1) (n - (k + 1)) ≤ 12 → (∀ t, t < 12 → 0 ≤ (h'.2.2.1 93 t).toInt ∧ (h'.2.2.1 93 t).toInt ≤ 11) → mm_W vwCl ck_dt ck_mts ck_T13 [hc_isStone] false 4 0 0 (2) (60) prog_14_method_83_code none Rt (154, [(3, mm_I i), (2, mm_I b), (1, mm_I a), (0, mm_A (some 77))], [], h', 0, 0) := fun r' h' f' e1 e2 e3 => by
      refine mm_go_ok [51] (N := fun z => mm_W vwCl ck_dt ck_mts ck_T13 [hc_isStone] false 4 0 0 (2) (60) prog_14_method_83_code none Rt z) (fun z h => h) 4 _ ?_
      simp only [mm_nn2, mm_one, mm_grp, mm_a, mm_b, mm_c, mm_bop, mm_d, mm_e, mm_ld, mm_sw, mm_k, mm_rt, mm_get, mm_put, mm_put2, mm_two, mm_rf, ck_tg, ck_chold, ck_cneg, List.elem_cons, List.elem_nil, List.find?_cons, List.filter_cons, List.filter_nil, Option.map_some, Nat.reduceBEq, Nat.reduceAdd, Bool.or_false, Bool.false_or, Bool.or_true, Bool.true_or, beq_self_eq_true, Bool.not_false, Bool.not_true, Bool.and_true, Bool.true_and, Bool.and_false, Bool.false_and, Bool.false_eq_true, ↓reduceIte, Fin.isValue, mm_f0, mm_f1, mm_f2, mm_f3, Nat.zero_mod, Nat.reduceMod, Option.some.injEq, Sum.inl.injEq, Sum.inr.injEq, exists_eq_left', List.find?_nil, List.length_cons, List.length_nil, true_and, and_true, Nat.reduceLT, Nat.reduceEqDiff, Int.reduceLE, Int.reduceAdd, Int.reduceToNat, Int.cast_ofNat_Int, Int.reduceNeg, Nat.reduceBeqDiff, Nat.zero_add, Prod.mk.injEq, mm_si_n, mm_si_s, mm_si_r, Option.toList_some, Option.toList_none, List.cons_append, List.nil_append, exists_eq', exists_eq, reduceCtorEq, false_and, and_false, false_or, or_false, exists_false, eq_self, and_self, mm_si_i, Int.reduceLT, mm_go_s dd_M_climbs_0, mm_go_s dd_M_climbs_1, mm_go_s dd_M_climbs_2, mm_go_s dd_M_climbs_5, mm_go_s dd_M_climbs_6, mm_go_s dd_M_climbs_9, mm_go_s dd_M_climbs_12, mm_go_s dd_M_climbs_13, mm_go_s dd_M_climbs_14, mm_go_s dd_M_climbs_17, mm_go_s dd_M_climbs_18, mm_go_s dd_M_climbs_21, mm_go_s dd_M_climbs_22, mm_go_s dd_M_climbs_25, mm_go_s dd_M_climbs_28, mm_go_s dd_M_climbs_29, mm_go_s dd_M_climbs_30, mm_go_s dd_M_climbs_31, mm_go_s dd_M_climbs_32, mm_go_s dd_M_climbs_35, mm_go_s dd_M_climbs_38, mm_go_s dd_M_climbs_39, mm_go_s dd_M_climbs_42, mm_go_s dd_M_climbs_45, mm_go_s dd_M_climbs_46, mm_go_s dd_M_climbs_47, mm_go_s dd_M_climbs_48, mm_go_s dd_M_climbs_49, mm_go_s dd_M_climbs_50, mm_go_s dd_M_climbs_51, mm_go_s dd_M_climbs_52, mm_go_s dd_M_climbs_53, mm_go_s dd_M_climbs_54, mm_go_s dd_M_climbs_55, mm_go_s dd_M_climbs_58, mm_go_s dd_M_climbs_59, mm_go_s dd_M_climbs_62, mm_go_s dd_M_climbs_65, mm_go_s dd_M_climbs_66, mm_go_s dd_M_climbs_67, mm_go_s dd_M_climbs_68, mm_go_s dd_M_climbs_69, mm_go_s dd_M_climbs_70, mm_go_s dd_M_climbs_71, mm_go_s dd_M_climbs_74, mm_go_s dd_M_climbs_75, mm_go_s dd_M_climbs_76, mm_go_s dd_M_climbs_79, mm_go_s dd_M_climbs_82, mm_go_s dd_M_climbs_83, mm_go_s dd_M_climbs_84, mm_go_s dd_M_climbs_85, mm_go_s dd_M_climbs_86, mm_go_s dd_M_climbs_87, mm_go_s dd_M_climbs_88, mm_go_s dd_M_climbs_89, mm_go_s dd_M_climbs_92, mm_go_s dd_M_climbs_95, mm_go_s dd_M_climbs_98, mm_go_s dd_M_climbs_99, mm_go_s dd_M_climbs_102, mm_go_s dd_M_climbs_103, mm_go_s dd_M_climbs_106, mm_go_s dd_M_climbs_107, mm_go_s dd_M_climbs_110, mm_go_s dd_M_climbs_113, mm_go_s dd_M_climbs_114, mm_go_s dd_M_climbs_115, mm_go_s dd_M_climbs_116, mm_go_s dd_M_climbs_117, mm_go_s dd_M_climbs_118, mm_go_s dd_M_climbs_119, mm_go_s dd_M_climbs_120, mm_go_s dd_M_climbs_121, mm_go_s dd_M_climbs_122, mm_go_s dd_M_climbs_125, mm_go_s dd_M_climbs_126, mm_go_s dd_M_climbs_129, mm_go_s dd_M_climbs_130, mm_go_s dd_M_climbs_133, mm_go_s dd_M_climbs_136, mm_go_s dd_M_climbs_137, mm_go_s dd_M_climbs_138, mm_go_s dd_M_climbs_139, mm_go_s dd_M_climbs_140, mm_go_s dd_M_climbs_141, mm_go_s dd_M_climbs_142, mm_go_s dd_M_climbs_143, mm_go_s dd_M_climbs_144, mm_go_s dd_M_climbs_145, mm_go_s dd_M_climbs_146, mm_go_s dd_M_climbs_149, mm_go_s dd_M_climbs_150, mm_go_s dd_M_climbs_151, mm_go_s dd_M_climbs_154, mm_go_s dd_M_climbs_157, mm_go_s dd_M_climbs_160, kt_m1, kt_0, kt_1, kt_3, kz, kb16_400, kt_400, kb16_1296, kt_1296, kb16_1300, kt_1300, kb16_1310, kt_1310, kb16_5310, kt_5310, pf13_318, gf13_13, gf13_70, gf13_318, gf13_67]
      exact ih (k + 1) r' _ h' (by omega) (by omega) m7 f' e1 e2 e3
    refine mm_go_ok [154, 89] (N := fun z => mm_W vwCl ck_dt ck_mts ck_T13 [hc_isStone] false 4 0 0 (2) (60) prog_14_method_83_code none Rt z) (fun z h => h) 30 _ ?_
    simp only [mm_nn2, mm_one, mm_grp, mm_a, mm_b, mm_c, mm_bop, mm_d, mm_e, mm_ld, mm_sw, mm_k, mm_rt, mm_get, mm_put, mm_put2, mm_two, mm_rf, ck_tg, ck_chold, ck_cneg, List.elem_cons, List.elem_nil, List.find?_cons, List.filter_cons, List.filter_nil, Option.map_some, Nat.reduceBEq, Nat.reduceAdd, Bool.or_false, Bool.false_or, Bool.or_true, Bool.true_or, beq_self_eq_true, Bool.not_false, Bool.not_true, Bool.and_true, Bool.true_and, Bool.and_false, Bool.false_and, Bool.false_eq_true, ↓reduceIte, Fin.isValue, mm_f0, mm_f1, mm_f2, mm_f3, Nat.zero_mod, Nat.reduceMod, Option.some.injEq, Sum.inl.injEq, Sum.inr.injEq, exists_eq_left', List.find?_nil, List.length_cons, List.length_nil, true_and, and_true, Nat.reduceLT, Nat.reduceEqDiff, Int.reduceLE, Int.reduceAdd, Int.reduceToNat, Int.cast_ofNat_Int, Int.reduceNeg, Nat.reduceBeqDiff, Nat.zero_add, Prod.mk.injEq, mm_si_n, mm_si_s, mm_si_r, Option.toList_some, Option.toList_none, List.cons_append, List.nil_append, exists_eq', exists_eq, reduceCtorEq, false_and, and_false, false_or, or_false, exists_false, eq_self, and_self, mm_si_i, Int.reduceLT, mm_go_s dd_M_climbs_0, mm_go_s dd_M_climbs_1, mm_go_s dd_M_climbs_2, mm_go_s dd_M_climbs_5, mm_go_s dd_M_climbs_6, mm_go_s dd_M_climbs_9, mm_go_s dd_M_climbs_12, mm_go_s dd_M_climbs_13, mm_go_s dd_M_climbs_14, mm_go_s dd_M_climbs_17, mm_go_s dd_M_climbs_18, mm_go_s dd_M_climbs_21, mm_go_s dd_M_climbs_22, mm_go_s dd_M_climbs_25, mm_go_s dd_M_climbs_28, mm_go_s dd_M_climbs_29, mm_go_s dd_M_climbs_30, mm_go_s dd_M_climbs_31, mm_go_s dd_M_climbs_32, mm_go_s dd_M_climbs_35, mm_go_s dd_M_climbs_38, mm_go_s dd_M_climbs_39, mm_go_s dd_M_climbs_42, mm_go_s dd_M_climbs_45, mm_go_s dd_M_climbs_46, mm_go_s dd_M_climbs_47, mm_go_s dd_M_climbs_48, mm_go_s dd_M_climbs_49, mm_go_s dd_M_climbs_50, mm_go_s dd_M_climbs_51, mm_go_s dd_M_climbs_52, mm_go_s dd_M_climbs_53, mm_go_s dd_M_climbs_54, mm_go_s dd_M_climbs_55, mm_go_s dd_M_climbs_58, mm_go_s dd_M_climbs_59, mm_go_s dd_M_climbs_62, mm_go_s dd_M_climbs_65, mm_go_s dd_M_climbs_66, mm_go_s dd_M_climbs_67, mm_go_s dd_M_climbs_68, mm_go_s dd_M_climbs_69, mm_go_s dd_M_climbs_70, mm_go_s dd_M_climbs_71, mm_go_s dd_M_climbs_74, mm_go_s dd_M_climbs_75, mm_go_s dd_M_climbs_76, mm_go_s dd_M_climbs_79, mm_go_s dd_M_climbs_82, mm_go_s dd_M_climbs_83, mm_go_s dd_M_climbs_84, mm_go_s dd_M_climbs_85, mm_go_s dd_M_climbs_86, mm_go_s dd_M_climbs_87, mm_go_s dd_M_climbs_88, mm_go_s dd_M_climbs_89, mm_go_s dd_M_climbs_92, mm_go_s dd_M_climbs_95, mm_go_s dd_M_climbs_98, mm_go_s dd_M_climbs_99, mm_go_s dd_M_climbs_102, mm_go_s dd_M_climbs_103, mm_go_s dd_M_climbs_106, mm_go_s dd_M_climbs_107, mm_go_s dd_M_climbs_110, mm_go_s dd_M_climbs_113, mm_go_s dd_M_climbs_114, mm_go_s dd_M_climbs_115, mm_go_s dd_M_climbs_116, mm_go_s dd_M_climbs_117, mm_go_s dd_M_climbs_118, mm_go_s dd_M_climbs_119, mm_go_s dd_M_climbs_120, mm_go_s dd_M_climbs_121, mm_go_s dd_M_climbs_122, mm_go_s dd_M_climbs_125, mm_go_s dd_M_climbs_126, mm_go_s dd_M_climbs_129, mm_go_s dd_M_climbs_130, mm_go_s dd_M_climbs_133, mm_go_s dd_M_climbs_136, mm_go_s dd_M_climbs_137, mm_go_s dd_M_climbs_138, mm_go_s dd_M_climbs_139, mm_go_s dd_M_climbs_140, mm_go_s dd_M_climbs_141, mm_go_s dd_M_climbs_142, mm_go_s dd_M_climbs_143, mm_go_s dd_M_climbs_144, mm_go_s dd_M_climbs_145, mm_go_s dd_M_climbs_146, mm_go_s dd_M_climbs_149, mm_go_s dd_M_climbs_150, mm_go_s dd_M_climbs_151, mm_go_s dd_M_climbs_154, mm_go_s dd_M_climbs_157, mm_go_s dd_M_climbs_160, kt_m1, kt_0, kt_1, kt_3, kz, kb16_400, kt_400, kb16_1296, kt_1296, kb16_1300, kt_1300, kb16_1310, kt_1310, kb16_5310, kt_5310, pf13_318, gf13_13, gf13_70, gf13_318, gf13_67, rr_lt hA, rr_s77 hA, rr_s78 hA, rr_s79 hA, rr_s80 hA, rr_s81 hA, rr_s82 hA, rr_s83 hA, rr_s84 hA, rr_s85 hA, rr_s86 hA, rr_s87 hA, rr_s88 hA, rr_s89 hA, rr_s90 hA, rr_s91 hA, rr_s92 hA, rr_s93 hA, rr_s94 hA, rr_s95 hA, rr_s96 hA, rr_s97 hA, rr_s98 hA, rr_s99 hA, rr_s100 hA, rr_r1 hA, rr_r2 hA, rr_r3 hA, rr_r4 hA, rr_r5 hA, rr_r6 hA, rr_r9 hA, rr_r10 hA, rr_r11 hA, rr_r19 hA, rr_r24 hA, rr_r25 hA, rr_r26 hA, rr_r27 hA, rr_r28 hA, rr_r30 hA, rr_r31 hA, rr_r35 hA, rr_r36 hA, rr_r37 hA, rr_r38 hA, rr_r39 hA, rr_r40 hA]
    rw [m2, m5]
    simp only [Int.toNat_natCast]
    have ek : (h.2.2.1 78 (1310 + 400 * T + k)).toInt = f k := by rw [f0.2.2.2 78 _ (by unfold cl_F; omega), hf k (by omega)]
    rw [ek]
    refine ⟨fun _ => K _ ⟨f0, by omega, h93⟩, fun c => ⟨by omega, by omega, fun c1 => skip r h f0 hr (by omega) h93, fun c1 => ⟨by omega, by omega, ?_⟩⟩⟩
    rw [if_pos c1] at hcn
    have e92 : h.2.2.1 78 1292 = h0.2.2.1 78 1292 := f0.2.2.2 78 1292 (by unfold cl_F; omega)
    refine rr_call (107, 0, 181) ck_m181 hc_isStone [mm_I (h.2.2.1 78 (5310 + 400 * T + k + 3))] [] hA dd_M_climbs_89 rfl ml13_107 (by decide) rfl rfl rfl (List.Mem.head _) rfl rfl (Nat.le_of_ble_eq_true rfl) ⟨by simp only [hc_isStone]; omega, by simp only [hc_isStone, ck_m181]; omega⟩ rfl ⟨hA, by rw [e92]; exact hs, _, rfl⟩ ?_
    rintro r1 _ ⟨rfl, ⟨rfl, q1, q2⟩ | ⟨rfl, -⟩⟩
    · rw [e92] at q2
      have m8 : (h.2.2.1 77 32 + Int32.ofInt 1).toInt = ((r + 1 : Nat) : Int) := by rw [ck_addI (by rw [kt_1, hr]; omega) (by rw [kt_1, hr]; omega), kt_1, hr]; omega
      refine mm_go_ok [121] (N := fun z => mm_W vwCl ck_dt ck_mts ck_T13 [hc_isStone] false 4 0 0 (2) (60) prog_14_method_83_code none Rt z) (fun z h => h) 20 _ ?_
      simp only [mm_nn2, mm_one, mm_grp, mm_a, mm_b, mm_c, mm_bop, mm_d, mm_e, mm_ld, mm_sw, mm_k, mm_rt, mm_get, mm_put, mm_put2, mm_two, mm_rf, ck_tg, ck_chold, ck_cneg, List.elem_cons, List.elem_nil, List.find?_cons, List.filter_cons, List.filter_nil, Option.map_some, Nat.reduceBEq, Nat.reduceAdd, Bool.or_false, Bool.false_or, Bool.or_true, Bool.true_or, beq_self_eq_true, Bool.not_false, Bool.not_true, Bool.and_true, Bool.true_and, Bool.and_false, Bool.false_and, Bool.false_eq_true, ↓reduceIte, Fin.isValue, mm_f0, mm_f1, mm_f2, mm_f3, Nat.zero_mod, Nat.reduceMod, Option.some.injEq, Sum.inl.injEq, Sum.inr.injEq, exists_eq_left', List.find?_nil, List.length_cons, List.length_nil, true_and, and_true, Nat.reduceLT, Nat.reduceEqDiff, Int.reduceLE, Int.reduceAdd, Int.reduceToNat, Int.cast_ofNat_Int, Int.reduceNeg, Nat.reduceBeqDiff, Nat.zero_add, Prod.mk.injEq, mm_si_n, mm_si_s, mm_si_r, Option.toList_some, Option.toList_none, List.cons_append, List.nil_append, exists_eq', exists_eq, reduceCtorEq, false_and, and_false, false_or, or_false, exists_false, eq_self, and_self, mm_si_i, Int.reduceLT, mm_go_s dd_M_climbs_0, mm_go_s dd_M_climbs_1, mm_go_s dd_M_climbs_2, mm_go_s dd_M_climbs_5, mm_go_s dd_M_climbs_6, mm_go_s dd_M_climbs_9, mm_go_s dd_M_climbs_12, mm_go_s dd_M_climbs_13, mm_go_s dd_M_climbs_14, mm_go_s dd_M_climbs_17, mm_go_s dd_M_climbs_18, mm_go_s dd_M_climbs_21, mm_go_s dd_M_climbs_22, mm_go_s dd_M_climbs_25, mm_go_s dd_M_climbs_28, mm_go_s dd_M_climbs_29, mm_go_s dd_M_climbs_30, mm_go_s dd_M_climbs_31, mm_go_s dd_M_climbs_32, mm_go_s dd_M_climbs_35, mm_go_s dd_M_climbs_38, mm_go_s dd_M_climbs_39, mm_go_s dd_M_climbs_42, mm_go_s dd_M_climbs_45, mm_go_s dd_M_climbs_46, mm_go_s dd_M_climbs_47, mm_go_s dd_M_climbs_48, mm_go_s dd_M_climbs_49, mm_go_s dd_M_climbs_50, mm_go_s dd_M_climbs_51, mm_go_s dd_M_climbs_52, mm_go_s dd_M_climbs_53, mm_go_s dd_M_climbs_54, mm_go_s dd_M_climbs_55, mm_go_s dd_M_climbs_58, mm_go_s dd_M_climbs_59, mm_go_s dd_M_climbs_62, mm_go_s dd_M_climbs_65, mm_go_s dd_M_climbs_66, mm_go_s dd_M_climbs_67, mm_go_s dd_M_climbs_68, mm_go_s dd_M_climbs_69, mm_go_s dd_M_climbs_70, mm_go_s dd_M_climbs_71, mm_go_s dd_M_climbs_74, mm_go_s dd_M_climbs_75, mm_go_s dd_M_climbs_76, mm_go_s dd_M_climbs_79, mm_go_s dd_M_climbs_82, mm_go_s dd_M_climbs_83, mm_go_s dd_M_climbs_84, mm_go_s dd_M_climbs_85, mm_go_s dd_M_climbs_86, mm_go_s dd_M_climbs_87, mm_go_s dd_M_climbs_88, mm_go_s dd_M_climbs_89, mm_go_s dd_M_climbs_92, mm_go_s dd_M_climbs_95, mm_go_s dd_M_climbs_98, mm_go_s dd_M_climbs_99, mm_go_s dd_M_climbs_102, mm_go_s dd_M_climbs_103, mm_go_s dd_M_climbs_106, mm_go_s dd_M_climbs_107, mm_go_s dd_M_climbs_110, mm_go_s dd_M_climbs_113, mm_go_s dd_M_climbs_114, mm_go_s dd_M_climbs_115, mm_go_s dd_M_climbs_116, mm_go_s dd_M_climbs_117, mm_go_s dd_M_climbs_118, mm_go_s dd_M_climbs_119, mm_go_s dd_M_climbs_120, mm_go_s dd_M_climbs_121, mm_go_s dd_M_climbs_122, mm_go_s dd_M_climbs_125, mm_go_s dd_M_climbs_126, mm_go_s dd_M_climbs_129, mm_go_s dd_M_climbs_130, mm_go_s dd_M_climbs_133, mm_go_s dd_M_climbs_136, mm_go_s dd_M_climbs_137, mm_go_s dd_M_climbs_138, mm_go_s dd_M_climbs_139, mm_go_s dd_M_climbs_140, mm_go_s dd_M_climbs_141, mm_go_s dd_M_climbs_142, mm_go_s dd_M_climbs_143, mm_go_s dd_M_climbs_144, mm_go_s dd_M_climbs_145, mm_go_s dd_M_climbs_146, mm_go_s dd_M_climbs_149, mm_go_s dd_M_climbs_150, mm_go_s dd_M_climbs_151, mm_go_s dd_M_climbs_154, mm_go_s dd_M_climbs_157, mm_go_s dd_M_climbs_160, kt_m1, kt_0, kt_1, kt_3, kz, kb16_400, kt_400, kb16_1296, kt_1296, kb16_1300, kt_1300, kb16_1310, kt_1310, kb16_5310, kt_5310, pf13_318, gf13_13, gf13_70, gf13_318, gf13_67, rr_lt hA, rr_s77 hA, rr_s78 hA, rr_s79 hA, rr_s80 hA, rr_s81 hA, rr_s82 hA, rr_s83 hA, rr_s84 hA, rr_s85 hA, rr_s86 hA, rr_s87 hA, rr_s88 hA, rr_s89 hA, rr_s90 hA, rr_s91 hA, rr_s92 hA, rr_s93 hA, rr_s94 hA, rr_s95 hA, rr_s96 hA, rr_s97 hA, rr_s98 hA, rr_s99 hA, rr_s100 hA, rr_r1 hA, rr_r2 hA, rr_r3 hA, rr_r4 hA, rr_r5 hA, rr_r6 hA, rr_r9 hA, rr_r10 hA, rr_r11 hA, rr_r19 hA, rr_r24 hA, rr_r25 hA, rr_r26 hA, rr_r27 hA, rr_r28 hA, rr_r30 hA, rr_r31 hA, rr_r35 hA, rr_r36 hA, rr_r37 hA, rr_r38 hA, rr_r39 hA, rr_r40 hA]
      rw [m6, hr]
      simp only [Int.toNat_natCast]
      refine ⟨fun _ => ⟨by omega, by omega, by omega, by omega, ?_⟩, fun c => absurd c k01_ne⟩
      generalize hy : h.2.2.1 78 (5310 + 400 * T + k + 1) = y
      have f1 : rr_fr cl_F h0 (mm_si h 94 r y) := f0.si _ _ _ (Or.inr (Or.inr ⟨rfl, by omega⟩))
      have r1 : ((mm_si h 94 r y).2.2.1 77 32) = h.2.2.1 77 32 := by simp only [mm_si_i, Nat.reduceEqDiff, false_and, ↓reduceIte]
      have v1 : ((mm_si h 94 r y).2.2.1 78 (5310 + 400 * T + k + 3)) = h.2.2.1 78 (5310 + 400 * T + k + 3) := by simp only [mm_si_i, Nat.reduceEqDiff, false_and, ↓reduceIte]
      have t1 : ∀ t, t < 12 → 0 ≤ ((mm_si h 94 r y).2.2.1 93 t).toInt ∧ ((mm_si h 94 r y).2.2.1 93 t).toInt ≤ 11 := fun t ht => by
        simp only [mm_si_i, Nat.reduceEqDiff, false_and, ↓reduceIte]
        exact h93 t ht
      generalize mm_si h 94 r y = h1 at f1 r1 v1 t1 ⊢
      have hA1 := f1.A hA0
      refine mm_go_ok [144] (N := fun z => mm_W vwCl ck_dt ck_mts ck_T13 [hc_isStone] false 4 0 0 (2) (60) prog_14_method_83_code none Rt z) (fun z h => h) 20 _ ?_
      simp only [mm_nn2, mm_one, mm_grp, mm_a, mm_b, mm_c, mm_bop, mm_d, mm_e, mm_ld, mm_sw, mm_k, mm_rt, mm_get, mm_put, mm_put2, mm_two, mm_rf, ck_tg, ck_chold, ck_cneg, List.elem_cons, List.elem_nil, List.find?_cons, List.filter_cons, List.filter_nil, Option.map_some, Nat.reduceBEq, Nat.reduceAdd, Bool.or_false, Bool.false_or, Bool.or_true, Bool.true_or, beq_self_eq_true, Bool.not_false, Bool.not_true, Bool.and_true, Bool.true_and, Bool.and_false, Bool.false_and, Bool.false_eq_true, ↓reduceIte, Fin.isValue, mm_f0, mm_f1, mm_f2, mm_f3, Nat.zero_mod, Nat.reduceMod, Option.some.injEq, Sum.inl.injEq, Sum.inr.injEq, exists_eq_left', List.find?_nil, List.length_cons, List.length_nil, true_and, and_true, Nat.reduceLT, Nat.reduceEqDiff, Int.reduceLE, Int.reduceAdd, Int.reduceToNat, Int.cast_ofNat_Int, Int.reduceNeg, Nat.reduceBeqDiff, Nat.zero_add, Prod.mk.injEq, mm_si_n, mm_si_s, mm_si_r, Option.toList_some, Option.toList_none, List.cons_append, List.nil_append, exists_eq', exists_eq, reduceCtorEq, false_and, and_false, false_or, or_false, exists_false, eq_self, and_self, mm_si_i, Int.reduceLT, mm_go_s dd_M_climbs_0, mm_go_s dd_M_climbs_1, mm_go_s dd_M_climbs_2, mm_go_s dd_M_climbs_5, mm_go_s dd_M_climbs_6, mm_go_s dd_M_climbs_9, mm_go_s dd_M_climbs_12, mm_go_s dd_M_climbs_13, mm_go_s dd_M_climbs_14, mm_go_s dd_M_climbs_17, mm_go_s dd_M_climbs_18, mm_go_s dd_M_climbs_21, mm_go_s dd_M_climbs_22, mm_go_s dd_M_climbs_25, mm_go_s dd_M_climbs_28, mm_go_s dd_M_climbs_29, mm_go_s dd_M_climbs_30, mm_go_s dd_M_climbs_31, mm_go_s dd_M_climbs_32, mm_go_s dd_M_climbs_35, mm_go_s dd_M_climbs_38, mm_go_s dd_M_climbs_39, mm_go_s dd_M_climbs_42, mm_go_s dd_M_climbs_45, mm_go_s dd_M_climbs_46, mm_go_s dd_M_climbs_47, mm_go_s dd_M_climbs_48, mm_go_s dd_M_climbs_49, mm_go_s dd_M_climbs_50, mm_go_s dd_M_climbs_51, mm_go_s dd_M_climbs_52, mm_go_s dd_M_climbs_53, mm_go_s dd_M_climbs_54, mm_go_s dd_M_climbs_55, mm_go_s dd_M_climbs_58, mm_go_s dd_M_climbs_59, mm_go_s dd_M_climbs_62, mm_go_s dd_M_climbs_65, mm_go_s dd_M_climbs_66, mm_go_s dd_M_climbs_67, mm_go_s dd_M_climbs_68, mm_go_s dd_M_climbs_69, mm_go_s dd_M_climbs_70, mm_go_s dd_M_climbs_71, mm_go_s dd_M_climbs_74, mm_go_s dd_M_climbs_75, mm_go_s dd_M_climbs_76, mm_go_s dd_M_climbs_79, mm_go_s dd_M_climbs_82, mm_go_s dd_M_climbs_83, mm_go_s dd_M_climbs_84, mm_go_s dd_M_climbs_85, mm_go_s dd_M_climbs_86, mm_go_s dd_M_climbs_87, mm_go_s dd_M_climbs_88, mm_go_s dd_M_climbs_89, mm_go_s dd_M_climbs_92, mm_go_s dd_M_climbs_95, mm_go_s dd_M_climbs_98, mm_go_s dd_M_climbs_99, mm_go_s dd_M_climbs_102, mm_go_s dd_M_climbs_103, mm_go_s dd_M_climbs_106, mm_go_s dd_M_climbs_107, mm_go_s dd_M_climbs_110, mm_go_s dd_M_climbs_113, mm_go_s dd_M_climbs_114, mm_go_s dd_M_climbs_115, mm_go_s dd_M_climbs_116, mm_go_s dd_M_climbs_117, mm_go_s dd_M_climbs_118, mm_go_s dd_M_climbs_119, mm_go_s dd_M_climbs_120, mm_go_s dd_M_climbs_121, mm_go_s dd_M_climbs_122, mm_go_s dd_M_climbs_125, mm_go_s dd_M_climbs_126, mm_go_s dd_M_climbs_129, mm_go_s dd_M_climbs_130, mm_go_s dd_M_climbs_133, mm_go_s dd_M_climbs_136, mm_go_s dd_M_climbs_137, mm_go_s dd_M_climbs_138, mm_go_s dd_M_climbs_139, mm_go_s dd_M_climbs_140, mm_go_s dd_M_climbs_141, mm_go_s dd_M_climbs_142, mm_go_s dd_M_climbs_143, mm_go_s dd_M_climbs_144, mm_go_s dd_M_climbs_145, mm_go_s dd_M_climbs_146, mm_go_s dd_M_climbs_149, mm_go_s dd_M_climbs_150, mm_go_s dd_M_climbs_151, mm_go_s dd_M_climbs_154, mm_go_s dd_M_climbs_157, mm_go_s dd_M_climbs_160, kt_m1, kt_0, kt_1, kt_3, kz, kb16_400, kt_400, kb16_1296, kt_1296, kb16_1300, kt_1300, kb16_1310, kt_1310, kb16_5310, kt_5310, pf13_318, gf13_13, gf13_70, gf13_318, gf13_67, rr_lt hA1, rr_s77 hA1, rr_s78 hA1, rr_s79 hA1, rr_s80 hA1, rr_s81 hA1, rr_s82 hA1, rr_s83 hA1, rr_s84 hA1, rr_s85 hA1, rr_s86 hA1, rr_s87 hA1, rr_s88 hA1, rr_s89 hA1, rr_s90 hA1, rr_s91 hA1, rr_s92 hA1, rr_s93 hA1, rr_s94 hA1, rr_s95 hA1, rr_s96 hA1, rr_s97 hA1, rr_s98 hA1, rr_s99 hA1, rr_s100 hA1, rr_r1 hA1, rr_r2 hA1, rr_r3 hA1, rr_r4 hA1, rr_r5 hA1, rr_r6 hA1, rr_r9 hA1, rr_r10 hA1, rr_r11 hA1, rr_r19 hA1, rr_r24 hA1, rr_r25 hA1, rr_r26 hA1, rr_r27 hA1, rr_r28 hA1, rr_r30 hA1, rr_r31 hA1, rr_r35 hA1, rr_r36 hA1, rr_r37 hA1, rr_r38 hA1, rr_r39 hA1, rr_r40 hA1]
      rw [m5, r1, hr]
      simp only [Int.toNat_natCast]
      refine ⟨by omega, by omega, by omega, by omega, ?_⟩
      rw [v1]
      have f2 : rr_fr cl_F h0 (mm_si h1 93 r (h.2.2.1 78 (5310 + 400 * T + k + 3))) := f1.si _ _ _ (Or.inr (Or.inl ⟨rfl, by omega⟩))
      have r2 : ((mm_si h1 93 r (h.2.2.1 78 (5310 + 400 * T + k + 3))).2.2.1 77 32) = h.2.2.1 77 32 := by simp only [mm_si_i, Nat.reduceEqDiff, false_and, ↓reduceIte]; exact r1
      have t2 : ∀ t, t < 12 → 0 ≤ ((mm_si h1 93 r (h.2.2.1 78 (5310 + 400 * T + k + 3))).2.2.1 93 t).toInt ∧ ((mm_si h1 93 r (h.2.2.1 78 (5310 + 400 * T + k + 3))).2.2.1 93 t).toInt ≤ 11 := fun t ht => by
        simp only [mm_si_i, true_and]
        split
        · exact ⟨q1, by omega⟩
        · exact t1 t ht
      generalize mm_si h1 93 r (h.2.2.1 78 (5310 + 400 * T + k + 3)) = h2 at f2 r2 t2 ⊢
      have hA2 := f2.A hA0
      refine mm_go_ok [154] (N := fun z => mm_W vwCl ck_dt ck_mts ck_T13 [hc_isStone] false 4 0 0 (2) (60) prog_14_method_83_code none Rt z) (fun z h => h) 20 _ ?_
      simp only [mm_nn2, mm_one, mm_grp, mm_a, mm_b, mm_c, mm_bop, mm_d, mm_e, mm_ld, mm_sw, mm_k, mm_rt, mm_get, mm_put, mm_put2, mm_two, mm_rf, ck_tg, ck_chold, ck_cneg, List.elem_cons, List.elem_nil, List.find?_cons, List.filter_cons, List.filter_nil, Option.map_some, Nat.reduceBEq, Nat.reduceAdd, Bool.or_false, Bool.false_or, Bool.or_true, Bool.true_or, beq_self_eq_true, Bool.not_false, Bool.not_true, Bool.and_true, Bool.true_and, Bool.and_false, Bool.false_and, Bool.false_eq_true, ↓reduceIte, Fin.isValue, mm_f0, mm_f1, mm_f2, mm_f3, Nat.zero_mod, Nat.reduceMod, Option.some.injEq, Sum.inl.injEq, Sum.inr.injEq, exists_eq_left', List.find?_nil, List.length_cons, List.length_nil, true_and, and_true, Nat.reduceLT, Nat.reduceEqDiff, Int.reduceLE, Int.reduceAdd, Int.reduceToNat, Int.cast_ofNat_Int, Int.reduceNeg, Nat.reduceBeqDiff, Nat.zero_add, Prod.mk.injEq, mm_si_n, mm_si_s, mm_si_r, Option.toList_some, Option.toList_none, List.cons_append, List.nil_append, exists_eq', exists_eq, reduceCtorEq, false_and, and_false, false_or, or_false, exists_false, eq_self, and_self, mm_si_i, Int.reduceLT, mm_go_s dd_M_climbs_0, mm_go_s dd_M_climbs_1, mm_go_s dd_M_climbs_2, mm_go_s dd_M_climbs_5, mm_go_s dd_M_climbs_6, mm_go_s dd_M_climbs_9, mm_go_s dd_M_climbs_12, mm_go_s dd_M_climbs_13, mm_go_s dd_M_climbs_14, mm_go_s dd_M_climbs_17, mm_go_s dd_M_climbs_18, mm_go_s dd_M_climbs_21, mm_go_s dd_M_climbs_22, mm_go_s dd_M_climbs_25, mm_go_s dd_M_climbs_28, mm_go_s dd_M_climbs_29, mm_go_s dd_M_climbs_30, mm_go_s dd_M_climbs_31, mm_go_s dd_M_climbs_32, mm_go_s dd_M_climbs_35, mm_go_s dd_M_climbs_38, mm_go_s dd_M_climbs_39, mm_go_s dd_M_climbs_42, mm_go_s dd_M_climbs_45, mm_go_s dd_M_climbs_46, mm_go_s dd_M_climbs_47, mm_go_s dd_M_climbs_48, mm_go_s dd_M_climbs_49, mm_go_s dd_M_climbs_50, mm_go_s dd_M_climbs_51, mm_go_s dd_M_climbs_52, mm_go_s dd_M_climbs_53, mm_go_s dd_M_climbs_54, mm_go_s dd_M_climbs_55, mm_go_s dd_M_climbs_58, mm_go_s dd_M_climbs_59, mm_go_s dd_M_climbs_62, mm_go_s dd_M_climbs_65, mm_go_s dd_M_climbs_66, mm_go_s dd_M_climbs_67, mm_go_s dd_M_climbs_68, mm_go_s dd_M_climbs_69, mm_go_s dd_M_climbs_70, mm_go_s dd_M_climbs_71, mm_go_s dd_M_climbs_74, mm_go_s dd_M_climbs_75, mm_go_s dd_M_climbs_76, mm_go_s dd_M_climbs_79, mm_go_s dd_M_climbs_82, mm_go_s dd_M_climbs_83, mm_go_s dd_M_climbs_84, mm_go_s dd_M_climbs_85, mm_go_s dd_M_climbs_86, mm_go_s dd_M_climbs_87, mm_go_s dd_M_climbs_88, mm_go_s dd_M_climbs_89, mm_go_s dd_M_climbs_92, mm_go_s dd_M_climbs_95, mm_go_s dd_M_climbs_98, mm_go_s dd_M_climbs_99, mm_go_s dd_M_climbs_102, mm_go_s dd_M_climbs_103, mm_go_s dd_M_climbs_106, mm_go_s dd_M_climbs_107, mm_go_s dd_M_climbs_110, mm_go_s dd_M_climbs_113, mm_go_s dd_M_climbs_114, mm_go_s dd_M_climbs_115, mm_go_s dd_M_climbs_116, mm_go_s dd_M_climbs_117, mm_go_s dd_M_climbs_118, mm_go_s dd_M_climbs_119, mm_go_s dd_M_climbs_120, mm_go_s dd_M_climbs_121, mm_go_s dd_M_climbs_122, mm_go_s dd_M_climbs_125, mm_go_s dd_M_climbs_126, mm_go_s dd_M_climbs_129, mm_go_s dd_M_climbs_130, mm_go_s dd_M_climbs_133, mm_go_s dd_M_climbs_136, mm_go_s dd_M_climbs_137, mm_go_s dd_M_climbs_138, mm_go_s dd_M_climbs_139, mm_go_s dd_M_climbs_140, mm_go_s dd_M_climbs_141, mm_go_s dd_M_climbs_142, mm_go_s dd_M_climbs_143, mm_go_s dd_M_climbs_144, mm_go_s dd_M_climbs_145, mm_go_s dd_M_climbs_146, mm_go_s dd_M_climbs_149, mm_go_s dd_M_climbs_150, mm_go_s dd_M_climbs_151, mm_go_s dd_M_climbs_154, mm_go_s dd_M_climbs_157, mm_go_s dd_M_climbs_160, kt_m1, kt_0, kt_1, kt_3, kz, kb16_400, kt_400, kb16_1296, kt_1296, kb16_1300, kt_1300, kb16_1310, kt_1310, kb16_5310, kt_5310, pf13_318, gf13_13, gf13_70, gf13_318, gf13_67, rr_lt hA2, rr_s77 hA2, rr_s78 hA2, rr_s79 hA2, rr_s80 hA2, rr_s81 hA2, rr_s82 hA2, rr_s83 hA2, rr_s84 hA2, rr_s85 hA2, rr_s86 hA2, rr_s87 hA2, rr_s88 hA2, rr_s89 hA2, rr_s90 hA2, rr_s91 hA2, rr_s92 hA2, rr_s93 hA2, rr_s94 hA2, rr_s95 hA2, rr_s96 hA2, rr_s97 hA2, rr_s98 hA2, rr_s99 hA2, rr_s100 hA2, rr_r1 hA2, rr_r2 hA2, rr_r3 hA2, rr_r4 hA2, rr_r5 hA2, rr_r6 hA2, rr_r9 hA2, rr_r10 hA2, rr_r11 hA2, rr_r19 hA2, rr_r24 hA2, rr_r25 hA2, rr_r26 hA2, rr_r27 hA2, rr_r28 hA2, rr_r30 hA2, rr_r31 hA2, rr_r35 hA2, rr_r36 hA2, rr_r37 hA2, rr_r38 hA2, rr_r39 hA2, rr_r40 hA2]
      rw [r2]
      refine skip (r + 1) _ (f2.si _ _ _ (Or.inl ⟨rfl, rfl⟩)) ?_ (by omega) (fun t ht => ?_)
      · simp only [mm_si_i, and_self, ↓reduceIte]
        exact m8
      · simp only [mm_si_i, Nat.reduceEqDiff, false_and, ↓reduceIte]
        exact t2 t ht
    · refine mm_go_ok [154, 98] (N := fun z => mm_W vwCl ck_dt ck_mts ck_T13 [hc_isStone] false 4 0 0 (2) (60) prog_14_method_83_code none Rt z) (fun z h => h) 5 _ ?_
      simp only [mm_nn2, mm_one, mm_grp, mm_a, mm_b, mm_c, mm_bop, mm_d, mm_e, mm_ld, mm_sw, mm_k, mm_rt, mm_get, mm_put, mm_put2, mm_two, mm_rf, ck_tg, ck_chold, ck_cneg, List.elem_cons, List.elem_nil, List.find?_cons, List.filter_cons, List.filter_nil, Option.map_some, Nat.reduceBEq, Nat.reduceAdd, Bool.or_false, Bool.false_or, Bool.or_true, Bool.true_or, beq_self_eq_true, Bool.not_false, Bool.not_true, Bool.and_true, Bool.true_and, Bool.and_false, Bool.false_and, Bool.false_eq_true, ↓reduceIte, Fin.isValue, mm_f0, mm_f1, mm_f2, mm_f3, Nat.zero_mod, Nat.reduceMod, Option.some.injEq, Sum.inl.injEq, Sum.inr.injEq, exists_eq_left', List.find?_nil, List.length_cons, List.length_nil, true_and, and_true, Nat.reduceLT, Nat.reduceEqDiff, Int.reduceLE, Int.reduceAdd, Int.reduceToNat, Int.cast_ofNat_Int, Int.reduceNeg, Nat.reduceBeqDiff, Nat.zero_add, Prod.mk.injEq, mm_si_n, mm_si_s, mm_si_r, Option.toList_some, Option.toList_none, List.cons_append, List.nil_append, exists_eq', exists_eq, reduceCtorEq, false_and, and_false, false_or, or_false, exists_false, eq_self, and_self, mm_si_i, Int.reduceLT, mm_go_s dd_M_climbs_0, mm_go_s dd_M_climbs_1, mm_go_s dd_M_climbs_2, mm_go_s dd_M_climbs_5, mm_go_s dd_M_climbs_6, mm_go_s dd_M_climbs_9, mm_go_s dd_M_climbs_12, mm_go_s dd_M_climbs_13, mm_go_s dd_M_climbs_14, mm_go_s dd_M_climbs_17, mm_go_s dd_M_climbs_18, mm_go_s dd_M_climbs_21, mm_go_s dd_M_climbs_22, mm_go_s dd_M_climbs_25, mm_go_s dd_M_climbs_28, mm_go_s dd_M_climbs_29, mm_go_s dd_M_climbs_30, mm_go_s dd_M_climbs_31, mm_go_s dd_M_climbs_32, mm_go_s dd_M_climbs_35, mm_go_s dd_M_climbs_38, mm_go_s dd_M_climbs_39, mm_go_s dd_M_climbs_42, mm_go_s dd_M_climbs_45, mm_go_s dd_M_climbs_46, mm_go_s dd_M_climbs_47, mm_go_s dd_M_climbs_48, mm_go_s dd_M_climbs_49, mm_go_s dd_M_climbs_50, mm_go_s dd_M_climbs_51, mm_go_s dd_M_climbs_52, mm_go_s dd_M_climbs_53, mm_go_s dd_M_climbs_54, mm_go_s dd_M_climbs_55, mm_go_s dd_M_climbs_58, mm_go_s dd_M_climbs_59, mm_go_s dd_M_climbs_62, mm_go_s dd_M_climbs_65, mm_go_s dd_M_climbs_66, mm_go_s dd_M_climbs_67, mm_go_s dd_M_climbs_68, mm_go_s dd_M_climbs_69, mm_go_s dd_M_climbs_70, mm_go_s dd_M_climbs_71, mm_go_s dd_M_climbs_74, mm_go_s dd_M_climbs_75, mm_go_s dd_M_climbs_76, mm_go_s dd_M_climbs_79, mm_go_s dd_M_climbs_82, mm_go_s dd_M_climbs_83, mm_go_s dd_M_climbs_84, mm_go_s dd_M_climbs_85, mm_go_s dd_M_climbs_86, mm_go_s dd_M_climbs_87, mm_go_s dd_M_climbs_88, mm_go_s dd_M_climbs_89, mm_go_s dd_M_climbs_92, mm_go_s dd_M_climbs_95, mm_go_s dd_M_climbs_98, mm_go_s dd_M_climbs_99, mm_go_s dd_M_climbs_102, mm_go_s dd_M_climbs_103, mm_go_s dd_M_climbs_106, mm_go_s dd_M_climbs_107, mm_go_s dd_M_climbs_110, mm_go_s dd_M_climbs_113, mm_go_s dd_M_climbs_114, mm_go_s dd_M_climbs_115, mm_go_s dd_M_climbs_116, mm_go_s dd_M_climbs_117, mm_go_s dd_M_climbs_118, mm_go_s dd_M_climbs_119, mm_go_s dd_M_climbs_120, mm_go_s dd_M_climbs_121, mm_go_s dd_M_climbs_122, mm_go_s dd_M_climbs_125, mm_go_s dd_M_climbs_126, mm_go_s dd_M_climbs_129, mm_go_s dd_M_climbs_130, mm_go_s dd_M_climbs_133, mm_go_s dd_M_climbs_136, mm_go_s dd_M_climbs_137, mm_go_s dd_M_climbs_138, mm_go_s dd_M_climbs_139, mm_go_s dd_M_climbs_140, mm_go_s dd_M_climbs_141, mm_go_s dd_M_climbs_142, mm_go_s dd_M_climbs_143, mm_go_s dd_M_climbs_144, mm_go_s dd_M_climbs_145, mm_go_s dd_M_climbs_146, mm_go_s dd_M_climbs_149, mm_go_s dd_M_climbs_150, mm_go_s dd_M_climbs_151, mm_go_s dd_M_climbs_154, mm_go_s dd_M_climbs_157, mm_go_s dd_M_climbs_160, kt_m1, kt_0, kt_1, kt_3, kz, kb16_400, kt_400, kb16_1296, kt_1296, kb16_1300, kt_1300, kb16_1310, kt_1310, kb16_5310, kt_5310, pf13_318, gf13_13, gf13_70, gf13_318, gf13_67]
      exact ⟨fun c => absurd rfl c, fun _ => skip r h f0 hr (by omega) h93⟩
theorem hh_climbs {Rt : Option mm_v → mm_h → Nat × Nat → Prop} (h : mm_h) (hA : rr_A h) (hs : 0 ≤ (h.2.2.1 78 1292).toInt ∧ (h.2.2.1 78 1292).toInt ≤ 12) (hL : -1 ≤ (h.2.2.1 78 1296).toInt ∧ (h.2.2.1 78 1296).toInt ≤ 9) (hg : gk (rr_kt h)) (h93 : ∀ t, t < 12 → 0 ≤ (h.2.2.1 93 t).toInt ∧ (h.2.2.1 93 t).toInt ≤ 11) (K : ∀ h', cl_Q h h' → Rt none h' (0, 0)) :
    mm_W vwCl ck_dt ck_mts ck_T13 [hc_isStone] false 4 0 0 (2) (60) prog_14_method_83_code none Rt (0, [(0, mm_A (some 77))], [], h, 0, 0) := by
  refine mm_go_ok [51] (N := fun z => mm_W vwCl ck_dt ck_mts ck_T13 [hc_isStone] false 4 0 0 (2) (60) prog_14_method_83_code none Rt z) (fun z h => h) 40 _ ?_
  simp only [mm_nn2, mm_one, mm_grp, mm_a, mm_b, mm_c, mm_bop, mm_d, mm_e, mm_ld, mm_sw, mm_k, mm_rt, mm_get, mm_put, mm_put2, mm_two, mm_rf, ck_tg, ck_chold, ck_cneg, List.elem_cons, List.elem_nil, List.find?_cons, List.filter_cons, List.filter_nil, Option.map_some, Nat.reduceBEq, Nat.reduceAdd, Bool.or_false, Bool.false_or, Bool.or_true, Bool.true_or, beq_self_eq_true, Bool.not_false, Bool.not_true, Bool.and_true, Bool.true_and, Bool.and_false, Bool.false_and, Bool.false_eq_true, ↓reduceIte, Fin.isValue, mm_f0, mm_f1, mm_f2, mm_f3, Nat.zero_mod, Nat.reduceMod, Option.some.injEq, Sum.inl.injEq, Sum.inr.injEq, exists_eq_left', List.find?_nil, List.length_cons, List.length_nil, true_and, and_true, Nat.reduceLT, Nat.reduceEqDiff, Int.reduceLE, Int.reduceAdd, Int.reduceToNat, Int.cast_ofNat_Int, Int.reduceNeg, Nat.reduceBeqDiff, Nat.zero_add, Prod.mk.injEq, mm_si_n, mm_si_s, mm_si_r, Option.toList_some, Option.toList_none, List.cons_append, List.nil_append, exists_eq', exists_eq, reduceCtorEq, false_and, and_false, false_or, or_false, exists_false, eq_self, and_self, mm_si_i, Int.reduceLT, mm_go_s dd_M_climbs_0, mm_go_s dd_M_climbs_1, mm_go_s dd_M_climbs_2, mm_go_s dd_M_climbs_5, mm_go_s dd_M_climbs_6, mm_go_s dd_M_climbs_9, mm_go_s dd_M_climbs_12, mm_go_s dd_M_climbs_13, mm_go_s dd_M_climbs_14, mm_go_s dd_M_climbs_17, mm_go_s dd_M_climbs_18, mm_go_s dd_M_climbs_21, mm_go_s dd_M_climbs_22, mm_go_s dd_M_climbs_25, mm_go_s dd_M_climbs_28, mm_go_s dd_M_climbs_29, mm_go_s dd_M_climbs_30, mm_go_s dd_M_climbs_31, mm_go_s dd_M_climbs_32, mm_go_s dd_M_climbs_35, mm_go_s dd_M_climbs_38, mm_go_s dd_M_climbs_39, mm_go_s dd_M_climbs_42, mm_go_s dd_M_climbs_45, mm_go_s dd_M_climbs_46, mm_go_s dd_M_climbs_47, mm_go_s dd_M_climbs_48, mm_go_s dd_M_climbs_49, mm_go_s dd_M_climbs_50, mm_go_s dd_M_climbs_51, mm_go_s dd_M_climbs_52, mm_go_s dd_M_climbs_53, mm_go_s dd_M_climbs_54, mm_go_s dd_M_climbs_55, mm_go_s dd_M_climbs_58, mm_go_s dd_M_climbs_59, mm_go_s dd_M_climbs_62, mm_go_s dd_M_climbs_65, mm_go_s dd_M_climbs_66, mm_go_s dd_M_climbs_67, mm_go_s dd_M_climbs_68, mm_go_s dd_M_climbs_69, mm_go_s dd_M_climbs_70, mm_go_s dd_M_climbs_71, mm_go_s dd_M_climbs_74, mm_go_s dd_M_climbs_75, mm_go_s dd_M_climbs_76, mm_go_s dd_M_climbs_79, mm_go_s dd_M_climbs_82, mm_go_s dd_M_climbs_83, mm_go_s dd_M_climbs_84, mm_go_s dd_M_climbs_85, mm_go_s dd_M_climbs_86, mm_go_s dd_M_climbs_87, mm_go_s dd_M_climbs_88, mm_go_s dd_M_climbs_89, mm_go_s dd_M_climbs_92, mm_go_s dd_M_climbs_95, mm_go_s dd_M_climbs_98, mm_go_s dd_M_climbs_99, mm_go_s dd_M_climbs_102, mm_go_s dd_M_climbs_103, mm_go_s dd_M_climbs_106, mm_go_s dd_M_climbs_107, mm_go_s dd_M_climbs_110, mm_go_s dd_M_climbs_113, mm_go_s dd_M_climbs_114, mm_go_s dd_M_climbs_115, mm_go_s dd_M_climbs_116, mm_go_s dd_M_climbs_117, mm_go_s dd_M_climbs_118, mm_go_s dd_M_climbs_119, mm_go_s dd_M_climbs_120, mm_go_s dd_M_climbs_121, mm_go_s dd_M_climbs_122, mm_go_s dd_M_climbs_125, mm_go_s dd_M_climbs_126, mm_go_s dd_M_climbs_129, mm_go_s dd_M_climbs_130, mm_go_s dd_M_climbs_133, mm_go_s dd_M_climbs_136, mm_go_s dd_M_climbs_137, mm_go_s dd_M_climbs_138, mm_go_s dd_M_climbs_139, mm_go_s dd_M_climbs_140, mm_go_s dd_M_climbs_141, mm_go_s dd_M_climbs_142, mm_go_s dd_M_climbs_143, mm_go_s dd_M_climbs_144, mm_go_s dd_M_climbs_145, mm_go_s dd_M_climbs_146, mm_go_s dd_M_climbs_149, mm_go_s dd_M_climbs_150, mm_go_s dd_M_climbs_151, mm_go_s dd_M_climbs_154, mm_go_s dd_M_climbs_157, mm_go_s dd_M_climbs_160, kt_m1, kt_0, kt_1, kt_3, kz, kb16_400, kt_400, kb16_1296, kt_1296, kb16_1300, kt_1300, kb16_1310, kt_1310, kb16_5310, kt_5310, pf13_318, gf13_13, gf13_70, gf13_318, gf13_67, rr_lt hA, rr_s77 hA, rr_s78 hA, rr_s79 hA, rr_s80 hA, rr_s81 hA, rr_s82 hA, rr_s83 hA, rr_s84 hA, rr_s85 hA, rr_s86 hA, rr_s87 hA, rr_s88 hA, rr_s89 hA, rr_s90 hA, rr_s91 hA, rr_s92 hA, rr_s93 hA, rr_s94 hA, rr_s95 hA, rr_s96 hA, rr_s97 hA, rr_s98 hA, rr_s99 hA, rr_s100 hA, rr_r1 hA, rr_r2 hA, rr_r3 hA, rr_r4 hA, rr_r5 hA, rr_r6 hA, rr_r9 hA, rr_r10 hA, rr_r11 hA, rr_r19 hA, rr_r24 hA, rr_r25 hA, rr_r26 hA, rr_r27 hA, rr_r28 hA, rr_r30 hA, rr_r31 hA, rr_r35 hA, rr_r36 hA, rr_r37 hA, rr_r38 hA, rr_r39 hA, rr_r40 hA]
  have f1 : rr_fr cl_F h (mm_si h 77 32 (Int32.ofInt 0)) := rr_fr.rf.si _ _ _ (Or.inl ⟨rfl, rfl⟩)
  have z1 : ((mm_si h 77 32 (Int32.ofInt 0)).2.2.1 77 32).toInt = ((0 : Nat) : Int) := by
    simp only [mm_si_i, and_self, ↓reduceIte]
    decide
  have h93' : ∀ t, t < 12 → 0 ≤ ((mm_si h 77 32 (Int32.ofInt 0)).2.2.1 93 t).toInt ∧ ((mm_si h 77 32 (Int32.ofInt 0)).2.2.1 93 t).toInt ≤ 11 := fun t ht => by
    simp only [mm_si_i, Nat.reduceEqDiff, false_and, ↓reduceIte]
    exact h93 t ht
  refine ⟨fun c => ?_, fun _ => K _ ⟨f1, by omega, h93'⟩⟩
  obtain ⟨T, hT⟩ : ∃ T : Nat, (h.2.2.1 78 1296).toInt = T := ⟨(h.2.2.1 78 1296).toInt.toNat, by omega⟩
  have hT9 : T < 10 := by omega
  have m4 : (Int32.ofInt 1300 + h.2.2.1 78 1296).toInt = ((1300 + T : Nat) : Int) := by rw [ck_addI (by rw [kt_1300, hT]; omega) (by rw [kt_1300, hT]; omega), kt_1300, hT]; omega
  have m5 : (Int32.ofInt 400 * h.2.2.1 78 1296).toInt = ((400 * T : Nat) : Int) := by rw [ck_mulI (by rw [kt_400, hT]; omega) (by rw [kt_400, hT]; omega), kt_400, hT]; omega
  rw [m4]
  simp only [Int.toNat_natCast]
  refine ⟨by omega, by omega, ?_⟩
  obtain ⟨g1, g2, g3⟩ := hg T hT9
  obtain ⟨n, hn⟩ : ∃ n : Nat, (rr_kt h T).toInt = n := ⟨(rr_kt h T).toInt.toNat, by omega⟩
  have hn4 : n ≤ 400 := by omega
  refine hh_climbs_l h n T hA hs hn4 hT9 (gk_f (rr_kt h) T) (fun k hk => ?_) _ (h.2.2.1 78 (1300 + T)) m5 hn K n 0 0 (Int32.ofInt 0) _ (by omega) (Nat.zero_le _) (by decide) f1 z1 ?_ h93'
  · unfold gk_f
    rw [hn]
    simp only [Int.toNat_natCast]
    rw [if_pos hk]
    unfold rr_kt
    rw [show 1300 + (10 + 400 * T + k) = 1310 + 400 * T + k by omega]
  · rcases g3 with g3 | g3
    · have : n = 0 := by omega
      subst this
      show 0 + 0 ≤ 12
      decide
    · rw [hn] at g3
      simp only [Int.toNat_natCast] at g3
      have := gg_text.cn 12 0 g3 (Nat.zero_le _)
      omega
def co_climbs : ab_C := (256, 101, [.inr (0, 77)], ((78, (1292, 1, 1)), .inl (0, 12)) :: ((78, (1296, 1, 1)), .inl (-1, 9)) :: ((78, (1300, 1, 8010)), .inr (8, 0)) :: ((93, (0, 1, 12)), .inl (0, 11)) :: rr_ft, [(77, (32, 1, 1)), (93, (0, 1, 12)), (94, (0, 1, 12))], [(none, [], [((77, (32, 1, 1)), .inl (0, 12)), ((93, (0, 1, 12)), .inl (0, 11))], 101)], 2, 60, 0, 0)
theorem hk_climbs (l : Launch) (D : va_G) (st : Nat → Nat) : hh_Met l D st (ab_m gk_G ck_sh co_climbs) := by
  refine mm_sound (T := ck_T13) (cs := [hc_isStone]) l ck_TSgood ck_okCl ck_okDt (M0 := ck_m256) rfl (by decide +kernel) ck_okT13 (List.forall_mem_cons.mpr ⟨hk_isStone l D st, ck_nil⟩) ?_
  rintro us h - ⟨hsh, hav, hgd⟩
  obtain ⟨us1, rfl, hav1⟩ := ab_av.cell hav
  obtain rfl := ab_av.nil hav1
  have hA : rr_A h := rr_A_of hsh hgd (fun x hx => List.mem_cons_of_mem _ (List.mem_cons_of_mem _ (List.mem_cons_of_mem _ (List.mem_cons_of_mem _ hx))))
  have h92 := ab_gd.num hgd (List.mem_cons_self)
  have h96 := ab_gd.num hgd (List.mem_cons_of_mem _ List.mem_cons_self)
  obtain ⟨g, hg, eg⟩ := ab_gd.gh hgd (List.mem_cons_of_mem _ (List.mem_cons_of_mem _ List.mem_cons_self))
  have h93 := ab_gd.nums hgd (List.mem_cons_of_mem _ (List.mem_cons_of_mem _ (List.mem_cons_of_mem _ List.mem_cons_self)))
  have hgk : gk (rr_kt h) := fun t ht => (hg t ht).on (eg t (by omega)).symm (fun k hk => (eg _ (by omega)).symm)
  have e93 : ∀ t, t < 12 → 0 ≤ (h.2.2.1 93 t).toInt ∧ (h.2.2.1 93 t).toInt ≤ 11 := fun t ht => by
    have := h93 t ht
    rw [Nat.zero_add, Nat.one_mul] at this
    exact this
  refine ⟨Nat.le_of_ble_eq_true rfl, hh_climbs h hA h92 h96 hgk e93 (fun h' a => ⟨Nat.le_of_eq a.1.1.symm, Nat.le_refl _, Nat.le_refl _, _, List.mem_cons_self, trivial, trivial, ?_, a.1.sh hsh, a.1.ab _ ?_⟩)⟩
  · intro x hx
    rcases List.mem_cons.mp hx with rfl | hx
    · exact ab_gx.n1 a.2.1
    rcases List.mem_cons.mp hx with rfl | hx
    · refine ab_gx.nn (fun t ht => ?_)
      rw [Nat.zero_add, Nat.one_mul]
      exact a.2.2 t ht
    · cases hx
  · rintro c p (⟨rfl, rfl⟩ | ⟨rfl, e⟩ | ⟨rfl, e⟩)
    · exact ⟨_, List.mem_cons_self, rfl, ab_mem1 (by omega) (by omega)⟩
    · exact ⟨_, List.mem_cons_of_mem _ List.mem_cons_self, rfl, ab_mem1 (by omega) (by omega)⟩
    · exact ⟨_, List.mem_cons_of_mem _ (List.mem_cons_of_mem _ List.mem_cons_self), rfl, ab_mem1 (by omega) (by omega)⟩
