/-! A RUN OF TABLES OVER THE PURE MACHINE, 3: fields and rows -/
def ck_num (I : List ck_I) (z : Int × Int) : List ck_I × ck_L := if z.1 = z.2 then (I, ck_k z.1) else ck_btw I z.1 z.2
theorem ck_num_ok {ν : Nat → Int} {I : List ck_I} {z : Int × Int} {x : Int} (h : ck_gi ν I) (h1 : z.1 ≤ x) (h2 : x ≤ z.2) : ck_res ν I (ck_num I z).1 (ck_num I z).2 x := by
  unfold ck_num
  split
  · have e : x = z.1 := by omega
    rw [e]; exact ck_k_ok h _
  · exact ck_btw_ok h h1 h2
def ck_toF (I : List ck_I) (V : ck_V) : ck_F := match V with
  | .inl f => .inl (ck_rng I f)
  | .inr q => .inr q
/-- what is of the kind G is of the kind F -/
def ck_subF (G F : ck_F) : Bool := match G, F with
  | .inl a, .inl b => decide (b.1 ≤ a.1) && decide (a.2 ≤ b.2)
  | .inr a, .inr b => decide (a = b) || (decide (b.1 = 3) && (decide (a.1 = 1) || (decide (a.1 = 4) && decide (a.2 = b.2))))
  | _, _ => false
theorem ck_subF_kv {h : mm_h} {a b : Nat × Nat} {v : mm_v} (hs : ck_subF (.inr a) (.inr b) = true) (hv : ab_kv h a v) : ab_kv h b v := by
  simp only [ck_subF, Bool.or_eq_true, Bool.and_eq_true, decide_eq_true_eq] at hs
  rcases hs with e | ⟨e3, e1 | ⟨e4, e5⟩⟩
  · rw [← e]; exact hv
  · obtain ⟨t, i⟩ := a
    obtain ⟨u, j⟩ := b
    dsimp only at e3 e1
    subst e3
    subst e1
    exact Or.inl hv
  · obtain ⟨t, i⟩ := a
    obtain ⟨u, j⟩ := b
    dsimp only at e3 e4 e5
    subst e3
    subst e4
    subst e5
    exact Or.inr hv
theorem ck_subF_ok {h : mm_h} {G F : ck_F} {i k : Nat} (hs : ck_subF G F = true) (hv : ab_fv h G i k) : ab_fv h F i k := by
  cases G with
  | inl a =>
    cases F with
    | inl b =>
      simp only [ck_subF, Bool.and_eq_true, decide_eq_true_eq] at hs
      obtain ⟨v1, v2⟩ := hv
      exact ⟨by omega, by omega⟩
    | inr b => cases hs
  | inr a =>
    cases F with
    | inl b => cases hs
    | inr b => exact ck_subF_kv hs hv
/-- a kind that holds what F holds and what G holds -/
def ck_join (F G : ck_F) : Option ck_F := if ck_subF G F = true then some F else if ck_subF F G = true then some G else match F, G with
  | .inl a, .inl b => some (.inl (min a.1 b.1, max a.2 b.2))
  | _, _ => none
theorem ck_join_ok {h : mm_h} {F G K : ck_F} {i k : Nat} (hj : ck_join F G = some K) : (ab_fv h F i k → ab_fv h K i k) ∧ (ab_fv h G i k → ab_fv h K i k) := by
  unfold ck_join at hj
  split at hj
  · rename_i h1
    cases hj
    exact ⟨id, ck_subF_ok h1⟩
  · split at hj
    · rename_i h1
      cases hj
      exact ⟨ck_subF_ok h1, id⟩
    · split at hj
      · cases hj
        refine ⟨fun hv => ?_, fun hv => ?_⟩
        · obtain ⟨v1, v2⟩ := hv
          exact ⟨by show min _ _ ≤ _; omega, by show _ ≤ max _ _; omega⟩
        · obtain ⟨v1, v2⟩ := hv
          exact ⟨by show min _ _ ≤ _; omega, by show _ ≤ max _ _; omega⟩
      · cases hj
def ab_noG (F : ck_F) : Bool := match F with
  | .inr q => decide (q.1 ≠ 8)
  | .inl _ => true
theorem ab_noG_ok {F : ck_F} (h : ab_noG F = true) : ∀ g, F ≠ .inr (8, g) := fun g e => by
  rw [e] at h
  simp [ab_noG] at h
def ab_find (X : ab_D) (I : List ck_I) (i : Nat) (f : ck_L) : Option ck_F := (X.find? (fun x => x.1.1 == i && ab_cov I f x.1.2)).map Prod.snd
theorem ab_find_ok {Gh : Nat → (Nat → Int32) → Prop} {ν : Nat → Int} {h : mm_h} {X : ab_D} {I : List ck_I} {i : Nat} {f : ck_L} {F : ck_F} {x : Int} (hf : ab_find X I i f = some F) (hX : ab_gd Gh h X) (hi : ck_gi ν I) (hx : x = ck_ev ν f) (hl : -2147483648 ≤ x ∧ x ≤ 2147483647) : ab_fv h F i x.toNat := by
  unfold ab_find at hf
  cases hq : X.find? (fun x => x.1.1 == i && ab_cov I f x.1.2) with
  | none => rw [hq] at hf; cases hf
  | some y =>
    rw [hq] at hf
    have e : y.2 = F := Option.some.inj hf
    have h1 := hX y (List.mem_of_find?_eq_some hq)
    have h2 := List.find?_some hq
    simp only [Bool.and_eq_true, beq_iff_eq] at h2
    obtain ⟨-, t, ht, e2⟩ := ab_cov_ok h2.2 hi hx hl
    have h3 := h1.1 t ht
    rw [← e2, h2.1, e] at h3
    exact h3
def ab_ex (E : ab_E) (i : Nat) (f : ck_L) : Option ck_L := (E.find? (fun q => q.1.1 == i && decide (q.1.2 = f))).map Prod.snd
theorem ab_ex_ok {ν : Nat → Int} {n : Nat} {h : mm_h} {E : ab_E} {i : Nat} {f g : ck_L} (hf : ab_ex E i f = some g) (hE : ab_gE ν n h E) : ck_wf n g ∧ (h.2.2.1 i (ck_ev ν f).toNat).toInt = ck_ev ν g := by
  unfold ab_ex at hf
  cases hq : E.find? (fun q => q.1.1 == i && decide (q.1.2 = f)) with
  | none => rw [hq] at hf; cases hf
  | some y =>
    rw [hq] at hf
    have e : y.2 = g := Option.some.inj hf
    have h2 := List.find?_some hq
    simp only [Bool.and_eq_true, beq_iff_eq, decide_eq_true_eq] at h2
    obtain ⟨w1, w2, w3, w4⟩ := hE y (List.mem_of_find?_eq_some hq)
    rw [h2.1, h2.2, e] at w4
    rw [e] at w2
    exact ⟨w2, w4⟩
/-- bounds of a number of which that is known -/
def ab_zz (F : Option ck_F) : Int × Int := match F with
  | some (.inl z) => z
  | _ => (-2147483648, 2147483647)
/-- a number is read -/
def ab_rd (I : List ck_I) (X : ab_X) (i : Nat) (f : ck_L) : Option (List ck_I × ck_L × ab_X) := match ab_ex X.2 i f with
  | some g => some (I, ck_norm I g, X)
  | none => some ((ck_num I (ab_zz (ab_find X.1 I i f))).1, (ck_num I (ab_zz (ab_find X.1 I i f))).2, (X.1, ((i, f), (ck_num I (ab_zz (ab_find X.1 I i f))).2) :: X.2))
section ABC
variable {Gh : Nat → (Nat → Int32) → Prop} {sh : List ck_Sh} {wr : List (Nat × ab_P)} {h0 : mm_h} {I I' : List ck_I} {L : List (Nat × ck_V)} {S S' : List ck_V} {X : ab_X} {nc mc ms n : Nat} {ν ν' : Nat → Int} {Lm : List (Nat × mm_v)} {Sm Sm' : List mm_v} {h : mm_h} {pc nL : Nat} {Wp : mm_s → Prop}
theorem ab_rd_ok {i : Nat} {f : ck_L} {r : List ck_I × ck_L × ab_X} {x : Int} (hr : ab_rd I X i f = some r) (hG : ab_G Gh sh wr h0 I L S X nc ν Lm Sm h) (hn : n ≤ I.length) (hw : ck_wf I.length f) (hx : x = ck_ev ν f) (hl : 0 ≤ x ∧ x ≤ 2147483647) (K : ab_K Wp Gh sh wr h0 n ν (pc, (r.1, L, .inl r.2.1 :: S, r.2.2, nc, mc, ms))) : Wp (pc, Lm, mm_I (h.2.2.1 i x.toNat) :: Sm, h, mc, ms) := by
  unfold ab_rd at hr
  split at hr
  · rename_i g hg
    cases hr
    obtain ⟨w, e⟩ := ab_ex_ok hg hG.2.2.2.2.1
    rw [← hx] at e
    have nm := ck_norm_ok hG.gi w e
    exact ab_pushV (V := .inl (ck_norm I g)) hG ⟨nm.1, _, rfl, nm.2⟩ K
  · cases hr
    have hv : (ab_zz (ab_find X.1 I i f)).1 ≤ (h.2.2.1 i x.toNat).toInt ∧ (h.2.2.1 i x.toNat).toInt ≤ (ab_zz (ab_find X.1 I i f)).2 := by
      cases hz : ab_find X.1 I i f with
      | none => exact ck_i32 _
      | some F =>
        cases F with
        | inr q => exact ck_i32 _
        | inl z => exact ab_find_ok hz hG.2.2.2.1 hG.gi hx ⟨by omega, by omega⟩
    obtain ⟨ν', a1, a2, a3, a4, a5⟩ := ck_num_ok (z := ab_zz (ab_find X.1 I i f)) hG.gi hv.1 hv.2
    have hG' := hG.grow a1 a2 a3
    refine K ν' Lm _ h (fun j hj => a1 j (by omega)) ?_
    obtain ⟨g1, g2, g3, g4, g5, g6⟩ := hG'
    refine ⟨g1, g2, ⟨⟨a4, _, rfl, a5.symm⟩, g3⟩, g4, fun q hq => ?_, g6⟩
    rcases List.mem_cons.mp hq with rfl | hq
    · have e1 : ck_ev ν' f = x := by rw [ck_ev_congr hw a1, hx]
      exact ⟨hw.mono a2, a4, by rw [e1]; exact hl, by rw [e1]; exact a5.symm⟩
    · exact g5 q hq
def ck_kd (X : ab_D) (I : List ck_I) (i : Nat) (f : ck_L) : Option (Nat × Nat) := match ab_find X I i f with
  | some (.inr q) => if ck_one (.inr q) = true then some q else none
  | _ => none
theorem ck_kd_ok {i : Nat} {f : ck_L} {q : Nat × Nat} {x : Int} (hk : ck_kd X.1 I i f = some q) (hG : ab_G Gh sh wr h0 I L S X nc ν Lm Sm h) (hx : x = ck_ev ν f) (hl : 0 ≤ x ∧ x ≤ 2147483647) : ck_one (.inr q) = true ∧ ab_kv h q (mm_A (h.2.2.2 i x.toNat)) := by
  unfold ck_kd at hk
  split at hk
  · rename_i q' hq
    split at hk
    · rename_i ho
      cases hk
      exact ⟨ho, ab_find_ok hq hG.2.2.2.1 hG.gi hx ⟨by omega, by omega⟩⟩
    · cases hk
  · cases hk
/-! a place is written -/
def ab_neq (I : List ck_I) (f g : ck_L) : Bool := decide ((ck_rng I f).2 < (ck_rng I g).1) || decide ((ck_rng I g).2 < (ck_rng I f).1) || (decide (f.1 = g.1) && decide (f.2.1 = g.2.1) && decide (f.2.2 ≠ g.2.2))
theorem ab_neq_ok {f g : ck_L} {x y : Int} (hq : ab_neq I f g = true) (hi : ck_gi ν I) (hx : x = ck_ev ν f) (hy : y = ck_ev ν g) (hl : 0 ≤ x ∧ x ≤ 2147483647) (hm : 0 ≤ y ∧ y ≤ 2147483647) : x.toNat ≠ y.toNat := by
  have r1 := ck_rng_ok hi hx ⟨by omega, by omega⟩
  have r2 := ck_rng_ok hi hy ⟨by omega, by omega⟩
  simp only [ab_neq, Bool.or_eq_true, Bool.and_eq_true, decide_eq_true_eq] at hq
  rcases hq with (z | z) | ⟨⟨z1, z2⟩, z3⟩
  · omega
  · omega
  · intro e
    apply z3
    have e2 : x = y := by omega
    rw [hx, hy] at e2
    unfold ck_ev at e2
    rw [z1, z2] at e2
    omega
def ab_wrD (I : List ck_I) (X : ab_D) (i : Nat) (f : ck_L) (F : ck_F) : ab_D := X.filterMap fun x =>
  if x.1.1 = i then (if ab_dis I f x.1.2 = true then some x else if x.1.2.2.2 = 1 ∧ f = ck_k x.1.2.1 then some (x.1, F) else if ab_noG x.2 = true then (ck_join x.2 F).map fun G => (x.1, G) else none) else some x
def ab_wrE (I : List ck_I) (E : ab_E) (i : Nat) (f : ck_L) : ab_E := E.filter fun q => !(q.1.1 == i) || ab_neq I q.1.2 f
theorem ab_wrE_ok {h' : mm_h} {E : ab_E} {i : Nat} {f : ck_L} {x : Int} (hi : ck_gi ν I) (hx : x = ck_ev ν f) (hl : 0 ≤ x ∧ x ≤ 2147483647) (hc : ∀ j k, ¬ (j = i ∧ k = x.toNat) → h'.2.2.1 j k = h.2.2.1 j k) (hE : ab_gE ν I.length h E) : ab_gE ν I.length h' (ab_wrE I E i f) := fun q hq => by
  obtain ⟨q1, q2⟩ := List.mem_filter.mp hq
  obtain ⟨w1, w2, w3, w4⟩ := hE q q1
  refine ⟨w1, w2, w3, ?_⟩
  rw [hc _ _ (fun z => ?_)]
  · exact w4
  · have q3 : ab_neq I q.1.2 f = true := by
      rcases Bool.or_eq_true_iff.mp q2 with y | y
      · simp [z.1] at y
      · exact y
    exact ab_neq_ok q3 hi rfl hx w3 hl z.2
theorem ck_join_noG {F G K : ck_F} (hj : ck_join F G = some K) (h1 : ab_noG F = true) (h2 : ab_noG G = true) : ab_noG K = true := by
  unfold ck_join at hj
  split at hj
  · cases hj; exact h1
  · split at hj
    · cases hj; exact h2
    · split at hj
      · cases hj; rfl
      · cases hj
theorem ab_fv.on {h' : mm_h} {F : ck_F} {i k : Nat} (hl : ab_le h h') (e1 : h'.2.2.1 i k = h.2.2.1 i k) (e2 : h'.2.2.2 i k = h.2.2.2 i k) (hv : ab_fv h F i k) : ab_fv h' F i k := by
  unfold ab_fv at hv ⊢
  split at hv
  · rw [e1]; exact hv
  · rw [e2]; exact hv.on hl
theorem ab_wrD_ok {h' : mm_h} {i : Nat} {f : ck_L} {F : ck_F} {x : Int} {Y : ab_D} (hX : ab_gd Gh h Y) (hi : ck_gi ν I) (hx : x = ck_ev ν f) (hl : 0 ≤ x ∧ x ≤ 2147483647) (hle : ab_le h h') (hc : ∀ j k, ¬ (j = i ∧ k = x.toNat) → h'.2.2.1 j k = h.2.2.1 j k ∧ h'.2.2.2 j k = h.2.2.2 j k) (hF : ab_fv h' F i x.toNat) (hg : ab_noG F = true) : ab_gd Gh h' (ab_wrD I Y i f F) := fun y hy => by
  obtain ⟨z, hz, hzy⟩ := List.mem_filterMap.mp hy
  have hz2 := hX z hz
  by_cases hc1 : z.1.1 = i
  · rw [if_pos hc1] at hzy
    by_cases hd : ab_dis I f z.1.2 = true
    · rw [if_pos hd] at hzy
      cases hzy
      exact hz2.keep hle (fun t ht => hc _ _ (fun q => ab_dis_ok hd hi hx ⟨by omega, by omega⟩ hl.1 ⟨t, ht, q.2.symm⟩))
    · rw [if_neg hd] at hzy
      by_cases hs : z.1.2.2.2 = 1 ∧ f = ck_k z.1.2.1
      · rw [if_pos hs] at hzy
        cases hzy
        have ex : x = (z.1.2.1 : Int) := by rw [hx, hs.2]; simp [ck_ev, ck_k]
        refine ⟨fun t ht => ?_, fun g e => absurd e (ab_noG_ok hg g)⟩
        have ht0 : t = 0 := by
          have : t < z.1.2.2.2 := ht
          omega
        have ep : z.1.2.1 + z.1.2.2.1 * t = x.toNat := by rw [ht0, ex]; simp
        show ab_fv h' F z.1.1 (z.1.2.1 + z.1.2.2.1 * t)
        rw [ep, hc1]
        exact hF
      · rw [if_neg hs] at hzy
        by_cases hng : ab_noG z.2 = true
        · rw [if_pos hng] at hzy
          cases hjn : ck_join z.2 F with
          | none => rw [hjn] at hzy; cases hzy
          | some G =>
            rw [hjn] at hzy
            cases hzy
            refine ⟨fun t ht => ?_, fun g e => absurd e (ab_noG_ok (ck_join_noG hjn hng hg) g)⟩
            show ab_fv h' G z.1.1 (z.1.2.1 + z.1.2.2.1 * t)
            by_cases hp : z.1.2.1 + z.1.2.2.1 * t = x.toNat
            · rw [hp, hc1]
              exact (ck_join_ok hjn).2 hF
            · obtain ⟨e1, e2⟩ := hc z.1.1 (z.1.2.1 + z.1.2.2.1 * t) (fun q => hp q.2)
              exact (ck_join_ok hjn).1 (ab_fv.on hle e1 e2 (hz2.1 t ht))
        · rw [if_neg hng] at hzy
          cases hzy
  · rw [if_neg hc1] at hzy
    cases hzy
    exact hz2.keep hle (fun t ht => hc _ _ (fun q => hc1 q.1))
def ab_allow (wr : List (Nat × ab_P)) (I : List ck_I) (i : Nat) (f : ck_L) : Bool := wr.any fun w => w.1 == i && (ab_cov I f w.2 && Nat.blt w.1 101)
theorem ab_allow_lt {wr : List (Nat × ab_P)} {I : List ck_I} {i : Nat} {f : ck_L} (ha : ab_allow wr I i f = true) : i < 101 := by
  obtain ⟨w, hw, h1⟩ := List.any_eq_true.mp ha
  simp only [Bool.and_eq_true, beq_iff_eq] at h1
  rw [← h1.1]
  exact Nat.blt_eq.mp h1.2.2
theorem ab_allow_ok {i : Nat} {f : ck_L} {x : Int} (ha : ab_allow wr I i f = true) (hi : ck_gi ν I) (hx : x = ck_ev ν f) (hl : 0 ≤ x ∧ x ≤ 2147483647) : ∃ w ∈ wr, w.1 = i ∧ ab_mem w.2 x.toNat := by
  obtain ⟨w, hw, h1⟩ := List.any_eq_true.mp ha
  simp only [Bool.and_eq_true, beq_iff_eq] at h1
  exact ⟨w, hw, h1.1, (ab_cov_ok h1.2.1 hi hx ⟨by omega, by omega⟩).2⟩
/-- the table behind a write -/
theorem ab_G.chg {h' : mm_h} {i : Nat} {f : ck_L} {F : ck_F} {x : Int} {E' : ab_E} (hG : ab_G Gh sh wr h0 I L S X nc ν Lm Sm h) (hx : x = ck_ev ν f) (hl : 0 ≤ x ∧ x ≤ 2147483647) (ha : ab_allow wr I i f = true) (hn : h'.1 = h.1) (hs : h'.2.1 = h.2.1) (hle : ab_le h h') (hc : ∀ j k, ¬ (j = i ∧ k = x.toNat) → h'.2.2.1 j k = h.2.2.1 j k ∧ h'.2.2.2 j k = h.2.2.2 j k) (hF : ab_fv h' F i x.toNat) (hg : ab_noG F = true) (hE : ab_gE ν I.length h' E') : ab_G Gh sh wr h0 I L S (ab_wrD I X.1 i f F, E') nc ν Lm Sm h' := by
  obtain ⟨g1, g2, g3, g4, g5, g6, g7⟩ := hG
  refine ⟨g1, g2.on hle (Nat.le_refl _) (fun _ _ => rfl), g3.on hle (Nat.le_refl _) (fun _ _ => rfl), ab_wrD_ok g4 g1 hx hl hle hc hF hg, hE, ⟨by rw [hn]; exact g6.1, fun z => by rw [hn]; exact g6.2.1 z, fun j hj => by rw [hs]; exact g6.2.2 j hj⟩, g7.trans ⟨hle, fun j k hj hw => ?_⟩⟩
  obtain ⟨w, w1, w2, w3⟩ := ab_allow_ok ha g1 hx hl
  exact hc j k (fun z => hw w w1 (by rw [w2, z.1]) (by rw [z.2]; exact w3))
theorem ab_le_si {i k : Nat} {y : Int32} (hi : i < 101) : ab_le h (mm_si h i k y) := ⟨Nat.le_refl _, fun _ _ => rfl, fun _ _ _ _ _ _ => ⟨rfl, rfl⟩, fun j q hj _ => if_neg (fun z => by omega)⟩
theorem ab_si_same {i k : Nat} {y : Int32} : (mm_si h i k y).2.2.1 i k = y := if_pos ⟨rfl, rfl⟩
theorem ab_si_oth {i k : Nat} {y : Int32} : ∀ j q, ¬ (j = i ∧ q = k) → (mm_si h i k y).2.2.1 j q = h.2.2.1 j q ∧ (mm_si h i k y).2.2.2 j q = h.2.2.2 j q := fun _ _ hz => ⟨if_neg hz, rfl⟩
/-- a number is written: what it is, is known -/
theorem ab_wri {i : Nat} {f g : ck_L} {x : Int} {y : Int32} (hG : ab_G Gh sh wr h0 I L S X nc ν Lm Sm h) (wf : ck_wf I.length f) (hx : x = ck_ev ν f) (hl : 0 ≤ x ∧ x ≤ 2147483647) (ha : ab_allow wr I i f = true) (wg : ck_wf I.length g) (hy : y.toInt = ck_ev ν g) : ab_G Gh sh wr h0 I L S (ab_wrD I X.1 i f (.inl (ck_rng I g)), ((i, f), g) :: ab_wrE I X.2 i f) nc ν Lm Sm (mm_si h i x.toNat y) := by
  have ry := ck_rng32 hG.gi hy
  refine hG.chg hx hl ha rfl rfl (ab_le_si (ab_allow_lt ha)) ab_si_oth (show (ck_rng I g).1 ≤ ((mm_si h i x.toNat y).2.2.1 i x.toNat).toInt ∧ _ by rw [ab_si_same]; exact ry) rfl (fun q hq => ?_)
  rcases List.mem_cons.mp hq with rfl | hq
  · exact ⟨wf, wg, by rw [← hx]; exact hl, by rw [← hx, ab_si_same]; exact hy⟩
  · exact ab_wrE_ok hG.gi hx hl (fun j k hz => (ab_si_oth j k hz).1) hG.2.2.2.2.1 q hq
/-- a number is written of which bounds are known -/
theorem ab_wrb {i : Nat} {f : ck_L} {z : Int × Int} {x : Int} {y : Int32} (hG : ab_G Gh sh wr h0 I L S X nc ν Lm Sm h) (hx : x = ck_ev ν f) (hl : 0 ≤ x ∧ x ≤ 2147483647) (ha : ab_allow wr I i f = true) (hy : z.1 ≤ y.toInt ∧ y.toInt ≤ z.2) : ab_G Gh sh wr h0 I L S (ab_wrD I X.1 i f (.inl z), ab_wrE I X.2 i f) nc ν Lm Sm (mm_si h i x.toNat y) := by
  refine hG.chg hx hl ha rfl rfl (ab_le_si (ab_allow_lt ha)) ab_si_oth (show z.1 ≤ ((mm_si h i x.toNat y).2.2.1 i x.toNat).toInt ∧ _ by rw [ab_si_same]; exact hy) rfl (ab_wrE_ok hG.gi hx hl (fun j k hz => (ab_si_oth j k hz).1) hG.2.2.2.2.1)
theorem ab_sr_same {i k : Nat} {r : Option Nat} : (mm_sr h i k r).2.2.2 i k = r := if_pos ⟨rfl, rfl⟩
theorem ab_sr_oth {i k : Nat} {r : Option Nat} : ∀ j q, ¬ (j = i ∧ q = k) → (mm_sr h i k r).2.2.1 j q = h.2.2.1 j q ∧ (mm_sr h i k r).2.2.2 j q = h.2.2.2 j q := fun _ _ hz => ⟨rfl, if_neg hz⟩
/-- a reference is written -/
theorem ab_wrr {i : Nat} {f : ck_L} {q : Nat × Nat} {x : Int} {r : Option Nat} (hG : ab_G Gh sh wr h0 I L S X nc ν Lm Sm h) (hx : x = ck_ev ν f) (hl : 0 ≤ x ∧ x ≤ 2147483647) (ha : ab_allow wr I i f = true) (ho : ck_one (.inr q) = true) (hr : ab_kv h q (mm_A r)) (hle : ab_le h (mm_sr h i x.toNat r)) : ab_G Gh sh wr h0 I L S (ab_wrD I X.1 i f (.inr q), X.2) nc ν Lm Sm (mm_sr h i x.toNat r) := by
  refine hG.chg hx hl ha rfl rfl hle ab_sr_oth (show ab_kv (mm_sr h i x.toNat r) q (mm_A ((mm_sr h i x.toNat r).2.2.2 i x.toNat)) by rw [ab_sr_same]; exact hr.on hle) ?_ hG.2.2.2.2.1
  obtain ⟨t, j⟩ := q
  match t, ho with
  | 0, _ => rfl
  | 1, _ => rfl
  | 2, _ => rfl
  | 3, _ => rfl
  | 4, _ => rfl
  | 5, _ => rfl
  | _ + 6, ho => cases ho
end ABC
