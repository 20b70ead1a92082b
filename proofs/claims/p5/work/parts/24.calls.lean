/-! A RUN OF TABLES OVER THE PURE MACHINE, 5: what is made, the library, calls, returns -/
/-- method, cells at its entry, its arguments, places that it reads, places that it may write, its ends; frames, words, cells, slots -/
abbrev ab_O : Type := Option ck_F × List (Int × Int) × ab_D × Nat
abbrev ab_C : Type := Nat × Nat × List ck_F × ab_D × List (Nat × ab_P) × List ab_O × Nat × Nat × Nat × Nat
def ab_va (h : mm_h) (F : ck_F) (v : mm_v) : Prop := match F with
  | .inl z => ∃ x : Int32, v = mm_I x ∧ z.1 ≤ x.toInt ∧ x.toInt ≤ z.2
  | .inr q => ab_kv h q v
def ab_av (h : mm_h) : List ck_F → List mm_v → Prop
  | [], [] => True
  | F :: Fs, v :: vs => ab_va h F v ∧ ab_av h Fs vs
  | _, _ => False
def mm_ints : List mm_v → List Int32
  | [] => []
  | .inl x :: vs => x :: mm_ints vs
  | _ :: vs => mm_ints vs
def ck_iv : List (Int × Int) → List Int32 → Prop
  | [], [] => True
  | z :: zs, x :: xs => z.1 ≤ x.toInt ∧ x.toInt ≤ z.2 ∧ ck_iv zs xs
  | _, _ => False
def ab_rv (h : mm_h) : Option ck_F → Option mm_v → Prop
  | none, none => True
  | some F, some v => ab_va h F v
  | _, _ => False
/-- what such a table says of a method -/
def ab_m (Gh : Nat → (Nat → Int32) → Prop) (sh : List ck_Sh) (co : ab_C) : mm_C := (co.1, (co.2.2.2.2.2.2.1, co.2.2.2.2.2.2.2.1, co.2.2.2.2.2.2.2.2.1, co.2.2.2.2.2.2.2.2.2), (fun us h => ab_sh sh co.2.1 h ∧ ab_av h co.2.2.1 us ∧ ab_gd Gh h co.2.2.2.1), fun us h r h' => ∃ o ∈ co.2.2.2.2.2.1, ab_rv h' o.1 r ∧ ck_iv o.2.1 (mm_ints us) ∧ ab_gd Gh h' o.2.2.1 ∧ ab_sh sh o.2.2.2 h' ∧ ab_fr co.2.2.2.2.1 h h')
theorem ck_subF_va {h : mm_h} {G F : ck_F} {v : mm_v} (hs : ck_subF G F = true) (hv : ab_va h G v) : ab_va h F v := by
  cases G with
  | inl a =>
    cases F with
    | inl b =>
      simp only [ck_subF, Bool.and_eq_true, decide_eq_true_eq] at hs
      obtain ⟨x, e, v1, v2⟩ := hv
      exact ⟨x, e, by omega, by omega⟩
    | inr b => cases hs
  | inr a =>
    cases F with
    | inl b => cases hs
    | inr b => exact ck_subF_kv hs hv
theorem ck_toF_ok {ν : Nat → Int} {I : List ck_I} {h : mm_h} {V : ck_V} {v : mm_v} (hi : ck_gi ν I) (hv : ab_gv ν h I.length V v) : ab_va h (ck_toF I V) v := by
  cases V with
  | inl f =>
    obtain ⟨-, x, rfl, h1⟩ := hv
    exact ⟨x, rfl, ck_rng32 hi h1⟩
  | inr q => exact hv
/-- the places w hold F -/
def ab_has (I : List ck_I) (X : ab_X) (w : Nat × ab_P) (F : ck_F) : Bool := X.1.any (fun x => x.1.1 == w.1 && ((ab_ssub w.2 x.1.2 && ab_noG F && ck_subF x.2 F) || (decide (x.1.2 = w.2) && decide (x.2 = F)))) || (decide (w.2.2.2 = 1) && match F with
  | .inl z => X.2.any (fun q => q.1.1 == w.1 && decide (q.1.2 = ck_k w.2.1) && decide (z.1 ≤ (ck_rng I q.2).1) && decide ((ck_rng I q.2).2 ≤ z.2))
  | .inr _ => false)
def ab_subD (I : List ck_I) (X : ab_X) (Y : ab_D) : Bool := Y.all fun y => ab_has I X y.1 y.2
theorem ab_has_ok {Gh : Nat → (Nat → Int32) → Prop} {ν : Nat → Int} {I : List ck_I} {X : ab_X} {h : mm_h} {w : Nat × ab_P} {F : ck_F} (hh : ab_has I X w F = true) (hi : ck_gi ν I) (hX : ab_gd Gh h X.1) (hE : ab_gE ν I.length h X.2) : ab_gx Gh h (w, F) := by
  simp only [ab_has, Bool.or_eq_true] at hh
  rcases hh with hh | hh
  · obtain ⟨x, hx, h1⟩ := List.any_eq_true.mp hh
    simp only [Bool.and_eq_true, Bool.or_eq_true, beq_iff_eq, decide_eq_true_eq] at h1
    obtain ⟨h1, h2⟩ := h1
    have g := hX x hx
    rcases h2 with ⟨⟨h2, h3⟩, h4⟩ | ⟨h2, h3⟩
    · refine ⟨fun t ht => ?_, fun q e => absurd e (ab_noG_ok h3 q)⟩
      obtain ⟨t', ht', e⟩ := ab_ssub_ok h2 ⟨t, ht, rfl⟩
      show ab_fv h F w.1 (w.2.1 + w.2.2.1 * t)
      rw [e, ← h1]
      exact ck_subF_ok h4 (g.1 t' ht')
    · obtain ⟨⟨i, p⟩, F'⟩ := x
      dsimp only at h1 h2 h3
      subst h1
      subst h2
      subst h3
      exact g
  · rw [Bool.and_eq_true] at hh
    obtain ⟨h1, h2⟩ := hh
    have hn : w.2.2.2 = 1 := of_decide_eq_true h1
    cases F with
    | inr q => cases h2
    | inl z =>
      obtain ⟨q, hq, h3⟩ := List.any_eq_true.mp h2
      simp only [Bool.and_eq_true, beq_iff_eq, decide_eq_true_eq] at h3
      obtain ⟨⟨⟨e1, e2⟩, e3⟩, e4⟩ := h3
      obtain ⟨w1, w2, w3, w4⟩ := hE q hq
      refine ⟨fun t ht => ?_, fun g e => by cases e⟩
      have t0 : t = 0 := by
        have : t < w.2.2.2 := ht
        omega
      have ei : (ck_ev ν q.1.2).toNat = w.2.1 := by rw [e2]; simp [ck_ev, ck_k]
      show z.1 ≤ (h.2.2.1 w.1 (w.2.1 + w.2.2.1 * t)).toInt ∧ _
      rw [t0, Nat.mul_zero, Nat.add_zero, ← e1, ← ei]
      have r := ck_rng32 hi w4
      omega
theorem ab_subD_ok {Gh : Nat → (Nat → Int32) → Prop} {ν : Nat → Int} {I : List ck_I} {X : ab_X} {Y : ab_D} {h : mm_h} (hh : ab_subD I X Y = true) (hi : ck_gi ν I) (hX : ab_gd Gh h X.1) (hE : ab_gE ν I.length h X.2) : ab_gd Gh h Y := fun y hy => ab_has_ok (List.all_eq_true.mp hh y hy) hi hX hE
section ABL
variable {Gh : Nat → (Nat → Int32) → Prop} {sh : List ck_Sh} {wr : List (Nat × ab_P)} {h0 : mm_h} {I I' : List ck_I} {L : List (Nat × ck_V)} {S S' : List ck_V} {X : ab_X} {nc mc ms n : Nat} {ν ν' : Nat → Int} {Lm : List (Nat × mm_v)} {Sm Sm' : List mm_v} {h : mm_h} {pc nL : Nat} {Wp : mm_s → Prop}
variable {cl : List vw_C} {dt : List (List FieldType)} {mts : List ck_MT} {CM SM FM LM : Nat}
/-! what is made -/
def ck_dfl (t : FieldType) : ck_F := match mm_ft t with
  | some true => .inr (1, 0)
  | _ => .inl (0, 0)
def ab_newX (nc : Nat) : Nat → List FieldType → ab_D
  | _, [] => []
  | k, t :: tl => ((nc, (k, 1, 1)), ck_dfl t) :: ab_newX nc (k + 1) tl
def ab_rowX (nc N : Nat) (F : ck_F) (tr : List (Nat × List ab_P)) : ab_D := match tr.find? (fun q => q.1 == nc) with
  | some q => q.2.map (fun w => ((nc, w), F))
  | none => [((nc, (0, 1, N)), F)]
def ab_in (nc : Nat) (X : ab_X) : Bool := X.1.all (fun x => decide (x.1.1 < nc)) && X.2.all (fun q => decide (q.1.1 < nc))
theorem ck_dfl_noG (t : FieldType) : ab_noG (ck_dfl t) = true := by
  unfold ck_dfl
  split <;> rfl
theorem ab_newX_ok {h' : mm_h} (hi : ∀ k, h'.2.2.1 nc k = 0) (hr : ∀ k, h'.2.2.2 nc k = none) : ∀ (tl : List FieldType) (k : Nat), ab_gd Gh h' (ab_newX nc k tl)
  | [], _ => fun x hx => by cases hx
  | t :: tl, k => fun x hx => by
    rcases List.mem_cons.mp hx with rfl | hx
    · refine ⟨fun u _ => ?_, fun g e => absurd e (ab_noG_ok (ck_dfl_noG t) g)⟩
      show ab_fv h' (ck_dfl t) nc (k + 1 * u)
      unfold ck_dfl ab_fv
      split
      · rename_i z hz
        split at hz
        · cases hz
        · cases hz
          rw [hi]
          exact ⟨Int.le_refl _, Int.le_refl _⟩
      · rename_i q hq
        split at hq
        · cases hq
          show mm_A (h'.2.2.2 nc (k + 1 * u)) = mm_A none
          rw [hr]
        · cases hq
    · exact ab_newX_ok hi hr tl (k + 1) x hx
theorem ab_rowX_ok {h' : mm_h} {N : Nat} {F : ck_F} {tr : List (Nat × List ab_P)} (hF : ∀ k, ab_fv h' F nc k) (hg : ab_noG F = true) : ab_gd Gh h' (ab_rowX nc N F tr) := fun x hx => by
  unfold ab_rowX at hx
  split at hx
  · obtain ⟨w, -, rfl⟩ := List.mem_map.mp hx
    exact ⟨fun t _ => hF _, fun g e => absurd e (ab_noG_ok hg g)⟩
  · rcases List.mem_cons.mp hx with rfl | hx
    · exact ⟨fun t _ => hF _, fun g e => absurd e (ab_noG_ok hg g)⟩
    · cases hx
theorem ab_le_new {S0 : ck_Sh} : ab_le h (mm_new h S0) := ⟨Nat.le_succ _, fun i hi => if_neg (Nat.ne_of_lt hi), fun i _ hi _ _ _ => ⟨if_neg (Nat.ne_of_lt hi), if_neg (Nat.ne_of_lt hi)⟩, fun i _ _ hi => if_neg (Nat.ne_of_lt hi)⟩
theorem ab_G.more {S0 : ck_Sh} {Y : ab_D} (hG : ab_G Gh sh wr h0 I L S X nc ν Lm Sm h) (hin : ab_in nc X = true) (hsh : sh[nc]? = some S0) (hY : ab_gd Gh (mm_new h S0) Y) : ab_G Gh sh wr h0 I L (.inr (0, nc) :: S) (Y ++ X.1, X.2) (nc + 1) ν Lm (mm_A (some h.1) :: Sm) (mm_new h S0) := by
  obtain ⟨g1, g2, g3, g4, g5, g6, g7⟩ := hG
  have hlt : nc < sh.length := (List.getElem?_eq_some_iff.mp hsh).1
  have en : h.1 = nc := g6.2.1 hlt
  simp only [ab_in, Bool.and_eq_true, List.all_eq_true, decide_eq_true_eq] at hin
  have same : ∀ i k, i < nc → (mm_new h S0).2.2.1 i k = h.2.2.1 i k ∧ (mm_new h S0).2.2.2 i k = h.2.2.2 i k := fun i k hi => ⟨if_neg (by omega), if_neg (by omega)⟩
  refine ⟨g1, g2.on ab_le_new (Nat.le_refl _) (fun _ _ => rfl), ⟨by show mm_A (some h.1) = mm_A (some nc); rw [en], g3.on ab_le_new (Nat.le_refl _) (fun _ _ => rfl)⟩, fun x hx => ?_, fun q hq => ?_, ⟨by show nc + 1 ≤ h.1 + 1; omega, fun _ => by show h.1 + 1 = nc + 1; omega, fun i hi => ?_⟩, g7.trans ⟨ab_le_new, fun i k hi _ => same i k (by omega)⟩⟩
  · rcases List.mem_append.mp hx with hx | hx
    · exact hY x hx
    · exact (g4 x hx).keep ab_le_new (fun t _ => same _ _ (hin.1 x hx))
  · obtain ⟨w1, w2, w3, w4⟩ := g5 q hq
    exact ⟨w1, w2, w3, by rw [(same _ _ (hin.2 q hq)).1]; exact w4⟩
  · show sh[i]? = some (if i = h.1 then S0 else h.2.1 i)
    by_cases hi2 : i = h.1
    · rw [if_pos hi2, hi2, en]; exact hsh
    · rw [if_neg hi2]; exact g6.2.2 i (by omega)
def ab_n (nl : List (Nat × Nat)) (dt : List (List FieldType)) (ats : List FieldType) (al : List (Nat × String)) (tr : List (Nat × List ab_P)) (sh : List ck_Sh) (CM SM : Nat) (pc : Nat) (i : Instr × Nat) (I : List ck_I) (L : List (Nat × ck_V)) (S : List ck_V) (X : ab_X) (k : Nat × Nat × Nat) : Option (List (Nat × ab_S)) := match i, S with
  | (.new x, 3), S => match nl.find? (fun q => q.1 == x) with
    | some q => match dt[q.2]? with
      | some tl => if ab_in k.1 X = true ∧ sh[k.1]? = some (.inl (q.2, tl.length)) ∧ tl.all (fun t => (mm_ft t).isSome) = true ∧ k.2.1 + 1 ≤ CM ∧ k.2.2 + tl.length ≤ SM then some [(pc + 3, (I, L, .inr (0, k.1) :: S, (ab_newX k.1 0 tl ++ X.1, X.2), k.1 + 1, k.2.1 + 1, k.2.2 + tl.length))] else none
      | none => none
    | none => none
  | (.newarray t, 2), .inl f :: S => if ab_in k.1 X = true ∧ f.2.1 = 0 ∧ 0 ≤ f.2.2 ∧ sh[k.1]? = some (.inr (newarray.typeOf t, f.2.2.toNat)) ∧ (newarray.typeOf t = .int ∨ newarray.typeOf t = .byte ∨ newarray.typeOf t = .boolean ∨ newarray.typeOf t = .long) ∧ newarray.typeOf t ∈ ats ∧ f.2.2.toNat * componentBytes (newarray.typeOf t) ≤ 536870912 ∧ k.2.1 + 1 ≤ CM ∧ k.2.2 + f.2.2.toNat ≤ SM then some [(pc + 2, (I, L, .inr (0, k.1) :: S, (ab_rowX k.1 f.2.2.toNat (.inl (0, 0)) tr ++ X.1, X.2), k.1 + 1, k.2.1 + 1, k.2.2 + f.2.2.toNat))] else none
  | (.anewarray x, 3), .inl f :: S => match al.find? (fun q => q.1 == x) with
    | some q => if ab_in k.1 X = true ∧ f.2.1 = 0 ∧ 0 ≤ f.2.2 ∧ sh[k.1]? = some (.inr (.object q.2, f.2.2.toNat)) ∧ f.2.2.toNat * 4 ≤ 536870912 ∧ k.2.1 + 1 ≤ CM ∧ k.2.2 + f.2.2.toNat ≤ SM then some [(pc + 3, (I, L, .inr (0, k.1) :: S, (ab_rowX k.1 f.2.2.toNat (.inr (1, 0)) tr ++ X.1, X.2), k.1 + 1, k.2.1 + 1, k.2.2 + f.2.2.toNat))] else none
    | none => none
  | _, _ => none
theorem ab_told {f : ck_L} {x : Int32} (e0 : f.2.1 = 0) (hx : x.toInt = ck_ev ν f) : x.toInt = f.2.2 := by rw [hx]; unfold ck_ev; rw [e0, Int.zero_mul, Int.zero_add]
theorem ab_n_ok {nl : List (Nat × Nat)} {ats : List FieldType} {al : List (Nat × String)} {tr : List (Nat × List ab_P)} {i : Instr × Nat} {xs : List (Nat × ab_S)} (hh : ab_n nl dt ats al tr sh CM SM pc i I L S X (nc, mc, ms) = some xs) (hG : ab_G Gh sh wr h0 I L S X nc ν Lm Sm h) (K : ∀ x ∈ xs, ab_K Wp Gh sh wr h0 n ν x) : mm_n nl dt ats al CM SM pc i Lm Sm h (mc, ms) Wp := by
  have hz : ∀ {S0 : ck_Sh}, nc < sh.length → (∀ k, (mm_new h S0).2.2.1 nc k = 0) ∧ ∀ k, (mm_new h S0).2.2.2 nc k = none := fun hl => by
    have en : h.1 = nc := hG.2.2.2.2.2.1.2.1 hl
    exact ⟨fun k => if_pos en.symm, fun k => if_pos en.symm⟩
  unfold ab_n at hh
  split at hh
  · split at hh
    · rename_i q hq
      split at hh
      · rename_i tl htl
        split at hh
        · rename_i hc
          obtain ⟨c0, c1, c2, c3, c4⟩ := hc
          cases hh
          obtain ⟨z1, z2⟩ := hz (S0 := .inl (q.2, tl.length)) (List.getElem?_eq_some_iff.mp c1).1
          exact ⟨q, tl, hq, htl, c2, c3, c4, K _ List.mem_cons_self ν Lm _ _ (fun _ _ => rfl) (hG.more c0 c1 (ab_newX_ok z1 z2 tl 0))⟩
        · cases hh
      · cases hh
    · cases hh
  · split at hh
    · rename_i t f S0 hc
      obtain ⟨c0, c1, c2, c3, c4, c5, c6, c7, c8⟩ := hc
      cases hh
      obtain ⟨v, vs', rfl, ⟨wf, x, rfl, ex⟩, h2⟩ := hG.gs.pop
      have ex2 := ab_told c1 ex
      rw [← ex2] at c3 c6 c8 K c2
      obtain ⟨z1, z2⟩ := hz (S0 := .inr (newarray.typeOf t, x.toInt.toNat)) (List.getElem?_eq_some_iff.mp c3).1
      exact ⟨c2, c4, c5, c6, c7, c8, K _ List.mem_cons_self ν Lm _ _ (fun _ _ => rfl) ((hG.stk h2).more c0 c3 (ab_rowX_ok (fun k => by show (0 : Int) ≤ ((mm_new h _).2.2.1 nc k).toInt ∧ _; rw [z1]; exact ⟨Int.le_refl _, Int.le_refl _⟩) rfl))⟩
    · cases hh
  · split at hh
    · rename_i q hq
      split at hh
      · rename_i hc
        obtain ⟨c0, c1, c2, c3, c6, c7, c8⟩ := hc
        cases hh
        obtain ⟨v, vs', rfl, ⟨wf, x, rfl, ex⟩, h2⟩ := hG.gs.pop
        have ex2 := ab_told c1 ex
        rw [← ex2] at c3 c6 c8 K c2
        obtain ⟨z1, z2⟩ := hz (S0 := .inr (.object q.2, x.toInt.toNat)) (List.getElem?_eq_some_iff.mp c3).1
        exact ⟨q, hq, c2, c6, c7, c8, K _ List.mem_cons_self ν Lm _ _ (fun _ _ => rfl) ((hG.stk h2).more c0 c3 (ab_rowX_ok (fun k => by show mm_A ((mm_new h _).2.2.2 nc k) = mm_A none; rw [z2]) rfl))⟩
      · cases hh
    · cases hh
  · cases hh
/-- constants of the pool, literals -/
def ab_ldc (kl : List (Nat × Int)) (sl : List (Nat × Nat)) (pc : Nat) (i : Instr × Nat) (I : List ck_I) (L : List (Nat × ck_V)) (S : List ck_V) (X : ab_X) (k : Nat × Nat × Nat) : Option (List (Nat × ab_S)) := match i with
  | (.ldc x, 2) => match kl.find? (fun q => q.1 == x), sl.find? (fun q => q.1 == x) with
    | some q, _ => some [(pc + 2, (I, L, .inl (ck_k (Int32.ofInt q.2).toInt) :: S, X, k))]
    | none, some q => some [(pc + 2, (I, L, .inr (2, q.2) :: S, X, k))]
    | _, _ => none
  | (.ldc_w x, 3) => match kl.find? (fun q => q.1 == x) with
    | some q => some [(pc + 3, (I, L, .inl (ck_k (Int32.ofInt q.2).toInt) :: S, X, k))]
    | none => none
  | _ => none
theorem ab_ldc_ok {kl jl : List (Nat × Int)} {sl : List (Nat × Nat)} {i : Instr × Nat} {xs : List (Nat × ab_S)} (hh : ab_ldc kl sl pc i I L S X (nc, mc, ms) = some xs) (hn : n ≤ I.length) (hG : ab_G Gh sh wr h0 I L S X nc ν Lm Sm h) (K : ∀ x ∈ xs, ab_K Wp Gh sh wr h0 n ν x) : mm_k kl jl sl pc i Lm Sm h (mc, ms) Wp := by
  unfold ab_ldc at hh
  split at hh
  · split at hh
    · rename_i q hq
      cases hh
      exact Or.inl ⟨q, hq, ab_pushv hG hn (ck_k_ok hG.gi _) (K _ List.mem_cons_self)⟩
    · rename_i q hq0 hq
      cases hh
      exact Or.inr ⟨q, hq, ab_pushV (V := .inr (2, q.2)) hG rfl (K _ List.mem_cons_self)⟩
    · cases hh
  · split at hh
    · rename_i q hq
      cases hh
      exact ⟨q, hq, ab_pushv hG hn (ck_k_ok hG.gi _) (K _ List.mem_cons_self)⟩
    · cases hh
  · cases hh
end ABL
