/-! A RUN OF TABLES OVER THE PURE MACHINE, 6: the library, calls, returns -/
section ABY
variable {Gh : Nat → (Nat → Int32) → Prop} {sh : List ck_Sh} {wr : List (Nat × ab_P)} {h0 : mm_h} {I I' : List ck_I} {L : List (Nat × ck_V)} {S S' : List ck_V} {X : ab_X} {nc mc ms n : Nat} {ν ν' : Nat → Int} {Lm : List (Nat × mm_v)} {Sm Sm' : List mm_v} {h : mm_h} {pc nL : Nat} {Wp : mm_s → Prop}
variable {cl : List vw_C} {dt : List (List FieldType)} {mts : List ck_MT} {CM SM FM LM : Nat}
/-- the places that a copy may change -/
def ab_reg (I : List ck_I) (f2 g : ck_L) : ab_P := ((ck_rng I f2).1.toNat, 1, ((ck_rng I f2).2 + (ck_rng I g).2 - (ck_rng I f2).1).toNat)
def ab_cpk (I : List ck_I) (X : ab_D) (a : Nat) (f1 f2 g : ck_L) (x : (Nat × ab_P) × ck_F) : Bool := ab_noG x.2 && ((decide (f1.2.1 = 0) && decide (f2.2.1 = 0) && decide (f1.2.2 = f2.2.2) && X.any (fun y => y.1.1 == a && ab_ssub x.1.2 y.1.2 && ck_subF y.2 x.2)) || (decide (g.2.1 = 0) && decide (g.2.2 ≤ 16) && (List.range g.2.2.toNat).all (fun q => (decide (f2.2.1 % x.1.2.2.1 = 0) && decide ((f2.2.2 + q - x.1.2.1) % x.1.2.2.1 ≠ 0)) || (match ab_find X I a (f1.1, f1.2.1, f1.2.2 + q) with
  | some F => ck_subF F x.2
  | none => false))))
def ab_cpD (I : List ck_I) (X : ab_D) (a b : Nat) (f1 f2 g : ck_L) : ab_D := X.filter fun x => !(x.1.1 == b) || ab_sdis x.1.2 (ab_reg I f2 g) || ab_cpk I X a f1 f2 g x
def ab_min (I : List ck_I) (f g : ck_L) : List ck_I × ck_L := ck_two (fun x y => if y < x then y else x) I f g (ck_btw I (min (ck_rng I f).1 (ck_rng I g).1) (min (ck_rng I f).2 (ck_rng I g).2))
theorem ab_min_ok {f g : ck_L} {x y : Int32} (h : ck_gi ν I) (hx : x.toInt = ck_ev ν f) (hy : y.toInt = ck_ev ν g) : ck_res ν I (ab_min I f g).1 (ab_min I f g).2 (if y < x then y else x).toInt := by
  have rx := ck_rng32 h hx
  have ry := ck_rng32 h hy
  refine ck_two_ok (o := fun x y => if y < x then y else x) h hx hy ?_
  show ck_res ν I _ _ (if y < x then y else x).toInt
  by_cases hc : y < x
  · have hc' := Int32.lt_iff_toInt_lt.mp hc
    rw [if_pos hc]
    exact ck_btw_ok h (by omega) (by omega)
  · have hc' : ¬ y.toInt < x.toInt := fun q => hc (Int32.lt_iff_toInt_lt.mpr q)
    rw [if_neg hc]
    exact ck_btw_ok h (by omega) (by omega)
def ab_max (I : List ck_I) (f g : ck_L) : List ck_I × ck_L := ck_two (fun x y => if x < y then y else x) I f g (ck_btw I (max (ck_rng I f).1 (ck_rng I g).1) (max (ck_rng I f).2 (ck_rng I g).2))
theorem ab_max_ok {f g : ck_L} {x y : Int32} (h : ck_gi ν I) (hx : x.toInt = ck_ev ν f) (hy : y.toInt = ck_ev ν g) : ck_res ν I (ab_max I f g).1 (ab_max I f g).2 (if x < y then y else x).toInt := by
  have rx := ck_rng32 h hx
  have ry := ck_rng32 h hy
  refine ck_two_ok (o := fun x y => if x < y then y else x) h hx hy ?_
  show ck_res ν I _ _ (if x < y then y else x).toInt
  by_cases hc : x < y
  · have hc' := Int32.lt_iff_toInt_lt.mp hc
    rw [if_pos hc]
    exact ck_btw_ok h (by omega) (by omega)
  · have hc' : ¬ x.toInt < y.toInt := fun q => hc (Int32.lt_iff_toInt_lt.mpr q)
    rw [if_neg hc]
    exact ck_btw_ok h (by omega) (by omega)
theorem ab_wd {S : List ck_V} {vs : List mm_v} : S.all ck_one = true → ab_gs ν h n S vs → mm_wd vs = S.length := by
  induction S generalizing vs with
  | nil => intro _ hs; cases vs with
    | nil => rfl
    | cons v vs => exact hs.elim
  | cons V S ih =>
    intro h1 hs
    obtain ⟨v, vs', rfl, g1, g2⟩ := hs.pop
    simp only [List.all_cons, Bool.and_eq_true] at h1
    have := ih h1.2 g2
    unfold mm_wd at this ⊢
    rw [List.map_cons, List.sum_cons, this, ck_one_two h1.1 g1, List.length_cons]
    simp
    omega
def ab_y (ml : List (Nat × Nat × Nat)) (sh : List ck_Sh) (wr : List (Nat × ab_P)) (CM SM FM LM : Nat) (pc : Nat) (i : Instr × Nat) (I : List ck_I) (L : List (Nat × ck_V)) (S : List ck_V) (X : ab_X) (k : Nat × Nat × Nat) : Option (List (Nat × ab_S)) := match i, S with
  | (.invokestatic x, 3), .inl g :: .inl f2 :: .inr (0, b) :: .inl f1 :: .inr (0, a) :: S => match ml.find? (fun q => q.1 == x), ck_row sh k.1 a, ck_row sh k.1 b with
    | some q, some (.int, n0), some (.int, n1) => if q.2.1 = 6 ∧ 0 ≤ (ck_rng I g).1 ∧ 0 ≤ (ck_rng I f1).1 ∧ 0 ≤ (ck_rng I f2).1 ∧ (ck_rng I f1).2 + (ck_rng I g).2 ≤ (n0 : Int) ∧ (ck_rng I f2).2 + (ck_rng I g).2 ≤ (n1 : Int) ∧ n0 < 2147483648 ∧ wr.any (fun w => w.1 == b && ab_ssub (ab_reg I f2 g) w.2) = true ∧ 1 ≤ FM ∧ S.all ck_one = true ∧ S.length + (nativeFrameWords "java/lang/System" "arraycopy" 5 + 11) ≤ LM ∧ b < 101 then some [(pc + 3, (I, L, S, (ab_cpD I X.1 a b f1 f2 g, X.2.filter (fun q => !(q.1.1 == b))), k))] else none
    | _, _, _ => none
  | (.invokespecial x, 3), .inr (0, _) :: S => match ml.find? (fun q => q.1 == x) with
    | some q => if q.2.1 = 7 ∧ 1 ≤ FM ∧ S.all ck_one = true ∧ S.length + 12 ≤ LM then some [(pc + 3, (I, L, S, X, k))] else none
    | none => none
  | _, _ => none
theorem ab_reg_ok {f2 g : ck_L} {d z : Int32} (hi : ck_gi ν I) (hd : d.toInt = ck_ev ν f2) (hz : z.toInt = ck_ev ν g) (h1 : 0 ≤ (ck_rng I f2).1) {k : Nat} (hk : d.toInt.toNat ≤ k) (hk2 : k < d.toInt.toNat + z.toInt.toNat) : ab_mem (ab_reg I f2 g) k := by
  have rd := ck_rng32 hi hd
  have rz := ck_rng32 hi hz
  refine ⟨k - (ck_rng I f2).1.toNat, ?_, ?_⟩
  · show k - (ck_rng I f2).1.toNat < ((ck_rng I f2).2 + (ck_rng I g).2 - (ck_rng I f2).1).toNat
    omega
  · show k = (ck_rng I f2).1.toNat + 1 * (k - (ck_rng I f2).1.toNat)
    omega
theorem ab_y_ok {ml : List (Nat × Nat × Nat)} {i : Instr × Nat} {xs : List (Nat × ab_S)} (hh : ab_y ml sh wr CM SM FM LM pc i I L S X (nc, mc, ms) = some xs) (hn : n ≤ I.length) (hG : ab_G Gh sh wr h0 I L S X nc ν Lm Sm h) (K : ∀ x ∈ xs, ab_K Wp Gh sh wr h0 n ν x) : mm_y ml CM SM FM LM pc i Lm Sm h (mc, ms) Wp := by
  have hsh := hG.2.2.2.2.2.1
  unfold ab_y at hh
  split at hh
  · rename_i x0 gg ff2 bb ff1 aa S0
    split at hh
    · rename_i q n0 n1 hq hr0 hr1
      split at hh
      · rename_i hc
        obtain ⟨c0, c1, c2, c3, c4, c5, c55, c6, c7, c8, c9, c10⟩ := hc
        cases hh
        obtain ⟨v, vs1, rfl, ⟨w1, z, rfl, ez⟩, g1⟩ := hG.gs.pop
        obtain ⟨v, vs2, rfl, ⟨w2, d, rfl, ed⟩, g2⟩ := g1.pop
        obtain ⟨v, vs3, rfl, hb, g3⟩ := g2.pop
        obtain ⟨v', vs4, rfl, ⟨w4, b, rfl, es⟩, g4⟩ := g3.pop
        obtain ⟨v'', vs5, rfl, ha, g5⟩ := g4.pop
        have eb : v = mm_A (some _) := hb
        have ea : v'' = mm_A (some _) := ha
        subst eb
        subst ea
        obtain ⟨a1, a2⟩ := ck_row_ok hr0 hsh
        obtain ⟨b1, b2⟩ := ck_row_ok hr1 hsh
        have rz := ck_rng32 hG.gi ez
        have rd := ck_rng32 hG.gi ed
        have rs := ck_rng32 hG.gi es
        refine ⟨q, n0, n1, hq, c0, a1, b1, a2, b2, by omega, by omega, by omega, by omega, by omega, c7, by rw [ab_wd c8 g5]; exact c9, K _ List.mem_cons_self ν Lm _ _ (fun _ _ => rfl) ?_⟩
        obtain ⟨t1, t2, t3, t4, t5, t6, t7⟩ := hG.stk g5
        have hle : ab_le h (mm_cp h aa bb b.toInt.toNat d.toInt.toNat z.toInt.toNat) := ⟨Nat.le_refl _, fun _ _ => rfl, fun _ _ _ _ _ _ => ⟨rfl, rfl⟩, fun i k hi _ => if_neg (fun e => by omega)⟩
        have hoth : ∀ j k, j ≠ bb → (mm_cp h aa bb b.toInt.toNat d.toInt.toNat z.toInt.toNat).2.2.1 j k = h.2.2.1 j k := fun j k hj => if_neg hj
        have hin : ∀ k, d.toInt.toNat ≤ k → k < d.toInt.toNat + z.toInt.toNat → (mm_cp h aa bb b.toInt.toNat d.toInt.toNat z.toInt.toNat).2.2.1 bb k = h.2.2.1 aa (b.toInt.toNat + (k - d.toInt.toNat)) := fun k k1 k2 => (if_pos rfl).trans (pk_cpy_in k1 k2)
        have hout : ∀ k, ¬ (d.toInt.toNat ≤ k ∧ k < d.toInt.toNat + z.toInt.toNat) → (mm_cp h aa bb b.toInt.toNat d.toInt.toNat z.toInt.toNat).2.2.1 bb k = h.2.2.1 bb k := fun k hk => (if_pos rfl).trans (pk_cpy_out (by omega))
        refine ⟨t1, t2.on hle (Nat.le_refl _) (fun _ _ => rfl), t3.on hle (Nat.le_refl _) (fun _ _ => rfl), fun x hx => ?_, fun e he => ?_, t6, t7.trans ⟨hle, fun j k hj hw => ⟨?_, rfl⟩⟩⟩
        · obtain ⟨x1, x2⟩ := List.mem_filter.mp hx
          have gx := t4 x x1
          by_cases hxb : x.1.1 = bb
          · simp only [hxb, beq_self_eq_true, Bool.not_true, Bool.false_or, Bool.or_eq_true] at x2
            rcases x2 with x2 | x2
            · refine gx.keep hle (fun t ht => ⟨?_, rfl⟩)
              rw [hxb]
              exact hout _ (fun y => ab_sdis_ok x2 ⟨t, ht, rfl⟩ (ab_reg_ok t1 ed ez c3 y.1 y.2))
            · unfold ab_cpk at x2
              rw [Bool.and_eq_true] at x2
              obtain ⟨y1, y2⟩ := x2
              refine ⟨fun t ht => ?_, fun g e => absurd e (ab_noG_ok y1 g)⟩
              have old := gx.1 t ht
              rw [hxb] at old ⊢
              by_cases hk : d.toInt.toNat ≤ x.1.2.1 + x.1.2.2.1 * t ∧ x.1.2.1 + x.1.2.2.1 * t < d.toInt.toNat + z.toInt.toNat
              · have ek := hin _ hk.1 hk.2
                -- what stands in the source there is of the kind x.2
                have hsrc : ∀ F, ck_subF F x.2 = true → ab_fv h F aa (b.toInt.toNat + (x.1.2.1 + x.1.2.2.1 * t - d.toInt.toNat)) → (∃ z0, x.2 = .inl z0) → ab_fv (mm_cp h aa bb b.toInt.toNat d.toInt.toNat z.toInt.toNat) x.2 bb (x.1.2.1 + x.1.2.2.1 * t) := fun F f1 f2 f3 => by
                  have f4 := ck_subF_ok f1 f2
                  obtain ⟨z0, e0⟩ := f3
                  rw [e0] at f4 ⊢
                  show z0.1 ≤ ((mm_cp h aa bb b.toInt.toNat d.toInt.toNat z.toInt.toNat).2.2.1 bb _).toInt ∧ _
                  rw [ek]
                  exact f4
                cases hk2 : x.2 with
                | inr u =>
                  rw [hk2] at old
                  exact ab_kv.on hle old
                | inl z0 =>
                  rw [← hk2]
                  rw [Bool.or_eq_true] at y2
                  rcases y2 with y2 | y2
                  · simp only [Bool.and_eq_true, decide_eq_true_eq] at y2
                    obtain ⟨⟨⟨s1, s2⟩, s3⟩, s4⟩ := y2
                    obtain ⟨y, ys, yy⟩ := List.any_eq_true.mp s4
                    simp only [Bool.and_eq_true, beq_iff_eq] at yy
                    obtain ⟨⟨yy1, yy2⟩, yy3⟩ := yy
                    obtain ⟨t', ht', et'⟩ := ab_ssub_ok yy2 ⟨t, ht, rfl⟩
                    have fy := (t4 y ys).1 t' ht'
                    rw [yy1, ← et'] at fy
                    have eb1 : b.toInt = ff1.2.2 := ab_told s1 es
                    have ed1 : d.toInt = ff2.2.2 := ab_told s2 ed
                    refine hsrc y.2 yy3 ?_ ⟨z0, hk2⟩
                    have e3 : b.toInt.toNat + (x.1.2.1 + x.1.2.2.1 * t - d.toInt.toNat) = x.1.2.1 + x.1.2.2.1 * t := by omega
                    rw [e3]
                    exact fy
                  · simp only [Bool.and_eq_true, decide_eq_true_eq] at y2
                    obtain ⟨⟨s1, s2⟩, s3⟩ := y2
                    have ez1 : z.toInt = gg.2.2 := ab_told s1 ez
                    have hq : x.1.2.1 + x.1.2.2.1 * t - d.toInt.toNat < gg.2.2.toNat := by omega
                    have s4 := List.all_eq_true.mp s3 _ (List.mem_range.mpr hq)
                    rw [Bool.or_eq_true] at s4
                    rcases s4 with s4 | s4
                    · simp only [Bool.and_eq_true, decide_eq_true_eq] at s4
                      obtain ⟨s5, s6⟩ := s4
                      have hm := ab_evmod (ν := ν) (f := ff2) (s := x.1.2.2.1) (b := (x.1.2.1 : Int) - ((x.1.2.1 + x.1.2.2.1 * t - d.toInt.toNat : Nat) : Int)) s5
                      rw [← ed] at hm
                      exfalso
                      apply s6
                      have e4 : ff2.2.2 + ((x.1.2.1 + x.1.2.2.1 * t - d.toInt.toNat : Nat) : Int) - x.1.2.1 = ff2.2.2 - ((x.1.2.1 : Int) - ((x.1.2.1 + x.1.2.2.1 * t - d.toInt.toNat : Nat) : Int)) := by omega
                      rw [e4, ← hm]
                      have e5 : d.toInt - ((x.1.2.1 : Int) - ((x.1.2.1 + x.1.2.2.1 * t - d.toInt.toNat : Nat) : Int)) = (x.1.2.2.1 : Int) * t := by
                        have e6 : (((x.1.2.1 + x.1.2.2.1 * t : Nat)) : Int) = (x.1.2.1 : Int) + (x.1.2.2.1 : Int) * t := by rw [Int.natCast_add, Int.natCast_mul]
                        omega
                      rw [e5, Int.mul_emod_right]
                    · split at s4
                      · rename_i F hF
                        refine hsrc F s4 ?_ ⟨z0, hk2⟩
                        have e7 : (b.toInt + ((x.1.2.1 + x.1.2.2.1 * t - d.toInt.toNat : Nat) : Int)) = ck_ev ν (ff1.1, ff1.2.1, ff1.2.2 + ((x.1.2.1 + x.1.2.2.1 * t - d.toInt.toNat : Nat) : Int)) := by
                          rw [es]; unfold ck_ev; dsimp only; omega
                        have i32 := ck_i32 b
                        have hb3 := ab_find_ok hF t4 t1 e7 ⟨by omega, by omega⟩
                        have e8 : (b.toInt + ((x.1.2.1 + x.1.2.2.1 * t - d.toInt.toNat : Nat) : Int)).toNat = b.toInt.toNat + (x.1.2.1 + x.1.2.2.1 * t - d.toInt.toNat) := by omega
                        rw [e8] at hb3
                        exact hb3
                      · cases s4
              · exact ab_fv.on hle (hout _ hk) rfl old
          · exact gx.keep hle (fun t ht => ⟨hoth _ _ hxb, rfl⟩)
        · obtain ⟨e1, e2⟩ := List.mem_filter.mp he
          obtain ⟨u1, u2, u3, u4⟩ := t5 e e1
          have hne : e.1.1 ≠ bb := by simpa using e2
          exact ⟨u1, u2, u3, by rw [hoth _ _ hne]; exact u4⟩
        · by_cases hjb : j = bb
          · rw [hjb]
            refine hout k (fun y => ?_)
            obtain ⟨w, hw1, hw2⟩ := List.any_eq_true.mp c6
            simp only [Bool.and_eq_true, beq_iff_eq] at hw2
            exact hw w hw1 (by rw [hw2.1, hjb]) (ab_ssub_ok hw2.2 (ab_reg_ok t1 ed ez c3 y.1 y.2))
          · exact hoth j k hjb
      · cases hh
    · cases hh
  · split at hh
    · rename_i q hq
      split at hh
      · rename_i hc
        obtain ⟨c0, c7, c8, c9⟩ := hc
        cases hh
        obtain ⟨v, vs1, rfl, ha, g1⟩ := hG.gs.pop
        have ea : v = mm_A (some _) := ha
        subst ea
        exact ⟨q, hq, c0, c7, by rw [ab_wd c8 g1]; exact c9, K _ List.mem_cons_self ν Lm _ _ (fun _ _ => rfl) (hG.stk g1)⟩
      · cases hh
    · cases hh
  · cases hh
def ab_x (ml : List (Nat × Nat × Nat)) (CM SM FM LM : Nat) (pc : Nat) (i : Instr × Nat) (I : List ck_I) (L : List (Nat × ck_V)) (S : List ck_V) (X : ab_X) (k : Nat × Nat × Nat) : Option (List (Nat × ab_S)) := match i, S with
  | (.invokestatic x, 3), .inl g :: .inl f :: S => match ml.find? (fun q => q.1 == x) with
    | some q => if (q.2.1 = 8 ∨ q.2.1 = 9) ∧ 1 ≤ FM ∧ S.all ck_one = true ∧ S.length + 13 ≤ LM ∧ k.2.1 ≤ CM ∧ k.2.2 ≤ SM then (if q.2.1 = 8 then some [(pc + 3, ((ab_min I f g).1, L, .inl (ab_min I f g).2 :: S, X, k))] else some [(pc + 3, ((ab_max I f g).1, L, .inl (ab_max I f g).2 :: S, X, k))]) else none
    | none => none
  | _, _ => none
theorem ab_x_ok {ml : List (Nat × Nat × Nat)} {i : Instr × Nat} {xs : List (Nat × ab_S)} (hh : ab_x ml CM SM FM LM pc i I L S X (nc, mc, ms) = some xs) (hn : n ≤ I.length) (hG : ab_G Gh sh wr h0 I L S X nc ν Lm Sm h) (K : ∀ x ∈ xs, ab_K Wp Gh sh wr h0 n ν x) : mm_x ml CM SM FM LM pc i Lm Sm h (mc, ms) Wp := by
  unfold ab_x at hh
  split at hh
  · split at hh
    · rename_i q hq
      split at hh
      · rename_i hc
        obtain ⟨c0, c7, c8, c9, c10, c11⟩ := hc
        obtain ⟨v, vs1, rfl, ⟨w1, y, rfl, ey⟩, g1⟩ := hG.gs.pop
        obtain ⟨v, vs2, rfl, ⟨w2, x, rfl, ex⟩, g2⟩ := g1.pop
        refine ⟨q, hq, c0, c7, by rw [ab_wd c8 g2]; exact c9, c10, c11, ?_⟩
        split at hh
        · rename_i h8
          cases hh
          rw [if_pos h8]
          exact ab_pushv (hG.stk g2) hn (ab_min_ok hG.gi ex ey) (K _ List.mem_cons_self)
        · rename_i h8
          cases hh
          rw [if_neg h8]
          exact ab_pushv (hG.stk g2) hn (ab_max_ok hG.gi ex ey) (K _ List.mem_cons_self)
      · cases hh
    · cases hh
  · cases hh
end ABY
