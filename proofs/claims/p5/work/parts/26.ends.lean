/-! A RUN OF TABLES OVER THE PURE MACHINE, 7: calls and returns -/
section ABX
variable {Gh : Nat → (Nat → Int32) → Prop} {sh : List ck_Sh} {wr : List (Nat × ab_P)} {h0 : mm_h} {I I' : List ck_I} {L : List (Nat × ck_V)} {S S' : List ck_V} {X : ab_X} {nc mc ms n : Nat} {ν ν' : Nat → Int} {Lm : List (Nat × mm_v)} {Sm Sm' : List mm_v} {h : mm_h} {pc nL : Nat} {Wp : mm_s → Prop}
variable {cl : List vw_C} {dt : List (List FieldType)} {mts : List ck_MT} {CM SM FM LM : Nat}
/-- numbers among what was handed over: their forms -/
def ck_forms : List ck_V → List ck_L
  | [] => []
  | .inl f :: Vs => f :: ck_forms Vs
  | .inr _ :: Vs => ck_forms Vs
def ck_cutZ : List ck_I → List ck_L → List (Int × Int) → Option (List ck_I)
  | I, [], [] => some I
  | I, f :: fs, z :: zs => (ck_ge I f z.1).bind fun J => (ck_le J f z.2).bind fun K => ck_cutZ K fs zs
  | _, _, _ => none
theorem ck_cutZ_ok : ∀ {fs : List ck_L} {zs : List (Int × Int)} {xs : List Int32} {I : List ck_I}, ck_gi ν I → ck_iv zs xs → (∀ (j : Nat) (f : ck_L), fs[j]? = some f → ∃ x, xs[j]? = some x ∧ x.toInt = ck_ev ν f) → fs.length = xs.length → ∃ I', ck_cutZ I fs zs = some I' ∧ ck_gi ν I' ∧ I'.length = I.length
  | [], [], [], I, hi, _, _, _ => ⟨I, rfl, hi, rfl⟩
  | f :: fs, z :: zs, x :: xs, I, hi, hz, hf, hlen => by
    obtain ⟨y, h1, h2⟩ := hf 0 f rfl
    have e : x = y := by simpa using h1
    subst e
    obtain ⟨J, j1, j2, j3⟩ := ck_ge_ok (f := f) (c := z.1) hi (by rw [← h2]; exact hz.1)
    obtain ⟨K, k1, k2, k3⟩ := ck_le_ok (f := f) (c := z.2) j2 (by rw [← h2]; exact hz.2.1)
    obtain ⟨I', a1, a2, a3⟩ := ck_cutZ_ok (fs := fs) (zs := zs) (xs := xs) k2 hz.2.2 (fun j g hg => hf (j + 1) g (by simpa using hg)) (by simpa using hlen)
    exact ⟨I', by unfold ck_cutZ; rw [j1]; show (ck_le J f z.2).bind _ = _; rw [k1]; exact a1, a2, by rw [a3, k3, j3]⟩
  | [], z :: zs, [], _, _, hz, _, _ => hz.elim
  | _ :: _, _, [], _, _, _, _, hl => by simp at hl
  | [], _, _ :: _, _, _, _, _, hl => by simp at hl
  | _ :: _, [], _ :: _, _, _, hz, _, _ => hz.elim
def ab_avb (I : List ck_I) : List ck_V → List ck_F → Bool
  | [], [] => true
  | V :: Vs, F :: Fs => ck_subF (ck_toF I V) F && ab_avb I Vs Fs
  | _, _ => false
theorem ab_avb_ok : ∀ {Vs : List ck_V} {Fs : List ck_F} {vs : List mm_v}, ab_avb I Vs Fs = true → ck_gi ν I → ab_gs ν h I.length Vs vs → ab_av h Fs vs
  | [], [], [], _, _, _ => trivial
  | V :: Vs, F :: Fs, v :: vs, hh, hi, hs => by
    simp only [ab_avb, Bool.and_eq_true] at hh
    exact ⟨ck_subF_va hh.1 (ck_toF_ok hi hs.1), ab_avb_ok hh.2 hi hs.2⟩
  | [], _ :: _, _, hh, _, _ => by simp [ab_avb] at hh
  | _ :: _, [], _, hh, _, _ => by simp [ab_avb] at hh
  | [], [], _ :: _, _, _, hs => hs.elim
  | _ :: _, _ :: _, [], _, _, hs => hs.elim
theorem mm_ints_rf {v : mm_v} {vs : List mm_v} (hv : mm_rf v = true) : mm_ints (v :: vs) = mm_ints vs := by
  rcases v with x | x | x | x
  · cases hv
  · cases hv
  · rfl
  · rfl
theorem ck_forms_ok : ∀ {Vs : List ck_V} {vs : List mm_v}, Vs.all ck_one = true → ab_gs ν h n Vs vs → (ck_forms Vs).length = (mm_ints vs).length ∧ ∀ (j : Nat) (f : ck_L), (ck_forms Vs)[j]? = some f → ∃ x, (mm_ints vs)[j]? = some x ∧ x.toInt = ck_ev ν f
  | [], [], _, _ => ⟨rfl, fun j f h => by simp [ck_forms] at h⟩
  | .inl f :: Vs, v :: vs, h1, hs => by
    obtain ⟨⟨w, x, rfl, e1⟩, h2⟩ := hs
    simp only [List.all_cons, Bool.and_eq_true] at h1
    obtain ⟨a1, a2⟩ := ck_forms_ok h1.2 h2
    refine ⟨by simp [ck_forms, mm_ints, a1], fun j g hg => ?_⟩
    match j, hg with
    | 0, hg =>
      have e : f = g := by simpa [ck_forms] using hg
      exact ⟨x, rfl, by rw [← e]; exact e1⟩
    | j + 1, hg =>
      obtain ⟨y, b1, b2⟩ := a2 j g (by simpa [ck_forms] using hg)
      exact ⟨y, by simpa [mm_ints] using b1, b2⟩
  | .inr q :: Vs, v :: vs, h1, hs => by
    obtain ⟨hq, h2⟩ := hs
    simp only [List.all_cons, Bool.and_eq_true] at h1
    obtain ⟨a1, a2⟩ := ck_forms_ok h1.2 h2
    rw [mm_ints_rf (ck_one_rf h1.1 hq)]
    exact ⟨a1, a2⟩
  | [], _ :: _, _, hs => hs.elim
  | _ :: _, [], _, hs => hs.elim
theorem ab_gs.split : ∀ {Vs S : List ck_V} {us : List mm_v}, ab_gs ν h n (Vs ++ S) us → ∃ as rest, us = as ++ rest ∧ ab_gs ν h n Vs as ∧ ab_gs ν h n S rest
  | [], S, us, hs => ⟨[], us, rfl, trivial, hs⟩
  | V :: Vs, S, [], hs => hs.elim
  | V :: Vs, S, v :: us, hs => by
    obtain ⟨as, rest, h1, h2, h3⟩ := ab_gs.split hs.2
    exact ⟨v :: as, rest, by rw [h1]; rfl, ⟨hs.1, h2⟩, h3⟩
theorem ab_gs.app : ∀ {Vs S : List ck_V} {as bs : List mm_v}, ab_gs ν h n Vs as → ab_gs ν h n S bs → ab_gs ν h n (Vs ++ S) (as ++ bs)
  | [], S, [], bs, _, hs => hs
  | [], S, _ :: _, bs, hs, _ => hs.elim
  | _ :: _, S, [], bs, hs, _ => hs.elim
  | V :: Vs, S, v :: as, bs, hs, h2 => ⟨hs.1, ab_gs.app hs.2 h2⟩
theorem ab_gs.rev : ∀ {Vs : List ck_V} {as : List mm_v}, ab_gs ν h n Vs as → ab_gs ν h n Vs.reverse as.reverse
  | [], [], hs => hs
  | [], _ :: _, hs => hs.elim
  | _ :: _, [], hs => hs.elim
  | V :: Vs, v :: as, hs => by
    rw [List.reverse_cons, List.reverse_cons]
    exact ab_gs.app (ab_gs.rev hs.2) ⟨hs.1, trivial⟩
theorem ab_gs.len : ∀ {Vs : List ck_V} {as : List mm_v}, ab_gs ν h n Vs as → Vs.length = as.length
  | [], [], _ => rfl
  | [], _ :: _, hs => hs.elim
  | _ :: _, [], hs => hs.elim
  | V :: Vs, v :: as, hs => by simp [ab_gs.len hs.2]
/-- forms that stand in places of which more is known now -/
def ab_meet (I : List ck_I) (E : ab_E) : ab_D → Option (List ck_I)
  | [] => some I
  | (w, .inl z) :: D => if w.2.2.2 = 1 then (match ab_ex E w.1 (ck_k w.2.1) with
    | some g => (ck_ge I g z.1).bind fun J => (ck_le J g z.2).bind fun K => ab_meet K E D
    | none => ab_meet I E D) else ab_meet I E D
  | (_, .inr _) :: D => ab_meet I E D
theorem ab_meet_ok {E : ab_E} : ∀ {D : ab_D} {I : List ck_I}, ck_gi ν I → ab_gE ν n h E → ab_gd Gh h D → ∃ J, ab_meet I E D = some J ∧ ck_gi ν J ∧ J.length = I.length
  | [], I, hi, _, _ => ⟨I, rfl, hi, rfl⟩
  | (w, .inr q) :: D, I, hi, hE, hD => ab_meet_ok (D := D) hi hE (fun x hx => hD x (List.mem_cons_of_mem _ hx))
  | (w, .inl z) :: D, I, hi, hE, hD => by
    have hD' : ab_gd Gh h D := fun x hx => hD x (List.mem_cons_of_mem _ hx)
    unfold ab_meet
    split
    · rename_i hw
      split
      · rename_i g hg
        obtain ⟨w1, w2⟩ := ab_ex_ok hg hE
        have gx := (hD _ List.mem_cons_self).1 0 (by show 0 < w.2.2.2; omega)
        have gx2 : z.1 ≤ (h.2.2.1 w.1 (w.2.1 + w.2.2.1 * 0)).toInt ∧ (h.2.2.1 w.1 (w.2.1 + w.2.2.1 * 0)).toInt ≤ z.2 := gx
        have ei : (ck_ev ν (ck_k (w.2.1 : Int))).toNat = w.2.1 := by simp [ck_ev, ck_k]
        rw [ei] at w2
        rw [Nat.mul_zero, Nat.add_zero, w2] at gx2
        obtain ⟨J, j1, j2, j3⟩ := ck_ge_ok (f := g) (c := z.1) hi gx2.1
        obtain ⟨K, k1, k2, k3⟩ := ck_le_ok (f := g) (c := z.2) j2 gx2.2
        obtain ⟨M, m1, m2, m3⟩ := ab_meet_ok (D := D) k2 hE hD'
        refine ⟨M, ?_, m2, by rw [m3, k3, j3]⟩
        rw [j1]
        show (ck_le J g z.2).bind _ = _
        rw [k1]
        exact m1
      · exact ab_meet_ok (D := D) hi hE hD'
    · exact ab_meet_ok (D := D) hi hE hD'
/-- what is known of the cells behind a call -/
def ab_keepD (wr : List (Nat × ab_P)) (X : ab_D) : ab_D := X.filter fun x => wr.all fun w => !(w.1 == x.1.1) || ab_sdis x.1.2 w.2
def ab_keepE (wr : List (Nat × ab_P)) (I : List ck_I) (E : ab_E) : ab_E := E.filter fun q => wr.all fun w => !(w.1 == q.1.1) || ab_dis I q.1.2 w.2
theorem ab_keepD_ok {h' : mm_h} {wc : List (Nat × ab_P)} {Y : ab_D} (hf : ab_fr wc h h') (hin : ∀ x ∈ Y, x.1.1 < h.1) (hX : ab_gd Gh h Y) : ab_gd Gh h' (ab_keepD wc Y) := fun x hx => by
  obtain ⟨h1, h2⟩ := List.mem_filter.mp hx
  refine (hX x h1).keep hf.1 (fun t ht => hf.2 _ _ (hin x h1) (fun w hw e => ?_))
  have h3 := List.all_eq_true.mp h2 w hw
  rw [Bool.or_eq_true] at h3
  rcases h3 with h3 | h3
  · simp [e] at h3
  · exact ab_sdis_ok h3 ⟨t, ht, rfl⟩
theorem ab_keepE_ok {h' : mm_h} {wc : List (Nat × ab_P)} {E : ab_E} (hi : ck_gi ν I) (hf : ab_fr wc h h') (hin : ∀ q ∈ E, q.1.1 < h.1) (hE : ab_gE ν n h E) : ab_gE ν n h' (ab_keepE wc I E) := fun q hq => by
  obtain ⟨h1, h2⟩ := List.mem_filter.mp hq
  obtain ⟨w1, w2, w3, w4⟩ := hE q h1
  refine ⟨w1, w2, w3, ?_⟩
  rw [(hf.2 _ _ (hin q h1) (fun w hw e => ?_)).1]
  · exact w4
  · have h3 := List.all_eq_true.mp h2 w hw
    rw [Bool.or_eq_true] at h3
    rcases h3 with h3 | h3
    · simp [e] at h3
    · exact ab_dis_ok h3 hi rfl ⟨by omega, by omega⟩ w3.1
def ab_pushF (I : List ck_I) (F : ck_F) : Option (List ck_I × ck_V) := match F with
  | .inl z => some ((ck_num I z).1, .inl (ck_num I z).2)
  | .inr q => if ck_one (.inr q) = true then some (I, .inr q) else none
theorem ab_pushF_ok {F : ck_F} {v : mm_v} {r : List ck_I × ck_V} (hG : ab_G Gh sh wr h0 I L S X nc ν Lm Sm h) (hn : n ≤ I.length) (hv : ab_va h F v) (hr : ab_pushF I F = some r) (K : ab_K Wp Gh sh wr h0 n ν (pc, (r.1, L, r.2 :: S, X, nc, mc, ms))) : Wp (pc, Lm, v :: Sm, h, mc, ms) := by
  cases F with
  | inl z =>
    cases hr
    obtain ⟨x, rfl, h1, h2⟩ := hv
    exact ab_pushv hG hn (ck_num_ok hG.gi h1 h2) K
  | inr q =>
    unfold ab_pushF at hr
    dsimp only at hr
    split at hr
    · cases hr
      exact ab_pushV (V := .inr q) hG hv K
    · cases hr
/-- one end of a call, seen from the caller -/
def ab_after (co : ab_C) (pc : Nat) (fs : List ck_L) (I : List ck_I) (L : List (Nat × ck_V)) (S : List ck_V) (X : ab_X) (k : Nat × Nat × Nat) (o : ab_O) : Option (List (Nat × ab_S)) :=
  match ck_cutZ I fs o.2.1 with
  | none => some []
  | some J => match ab_meet J (ab_keepE co.2.2.2.2.1 I X.2) o.2.2.1 with
    | none => some []
    | some J => match o.1 with
      | none => some [(pc + 3, (J, L, S, (o.2.2.1 ++ ab_keepD co.2.2.2.2.1 X.1, ab_keepE co.2.2.2.2.1 I X.2), o.2.2.2, k.2.1 + co.2.2.2.2.2.2.2.2.1, k.2.2 + co.2.2.2.2.2.2.2.2.2))]
      | some F => match ab_pushF J F with
        | some r => some [(pc + 3, (r.1, L, r.2 :: S, (o.2.2.1 ++ ab_keepD co.2.2.2.2.1 X.1, ab_keepE co.2.2.2.2.1 I X.2), o.2.2.2, k.2.1 + co.2.2.2.2.2.2.2.2.1, k.2.2 + co.2.2.2.2.2.2.2.2.2))]
        | none => none
def ab_ends (co : ab_C) (pc : Nat) (fs : List ck_L) (I : List ck_I) (L : List (Nat × ck_V)) (S : List ck_V) (X : ab_X) (k : Nat × Nat × Nat) : List ab_O → Option (List (Nat × ab_S))
  | [] => some []
  | o :: os => match ab_after co pc fs I L S X k o, ab_ends co pc fs I L S X k os with
    | some a, some b => some (a ++ b)
    | _, _ => none
theorem ab_ends_ok {co : ab_C} {fs : List ck_L} {k : Nat × Nat × Nat} {o : ab_O} : ∀ {os : List ab_O} {xs : List (Nat × ab_S)}, ab_ends co pc fs I L S X k os = some xs → o ∈ os → ∃ a, ab_after co pc fs I L S X k o = some a ∧ ∀ x ∈ a, x ∈ xs
  | [], _, _, ho => by cases ho
  | q :: os, xs, hh, ho => by
    unfold ab_ends at hh
    split at hh
    · rename_i a b ha hb
      cases hh
      rcases List.mem_cons.mp ho with rfl | ho
      · exact ⟨a, ha, fun x hx => List.mem_append_left _ hx⟩
      · obtain ⟨a', h1, h2⟩ := ab_ends_ok hb ho
        exact ⟨a', h1, fun x hx => List.mem_append_right _ (h2 x hx)⟩
    · cases hh
def ab_fitC (co : ab_C) (I : List ck_I) (S : List ck_V) (X : ab_X) (nc : Nat) : Bool := decide (co.2.1 = nc) && ab_avb I (S.take co.2.2.1.length).reverse co.2.2.1 && ab_subD I X co.2.2.2.1
/-- the callee's own object -/
def ab_self (cl : List vw_C) (sh : List ck_Sh) (nc : Nat) (M : ck_MT) (o : Nat) (Vs : List ck_V) : Bool := match o, Vs with
  | 1, Vs => decide (Vs.length = M.2.2.2.2)
  | 0, .inr (0, i) :: Vs => decide (Vs.length = M.2.2.2.2) && (match ck_obj sh nc i with
    | some ob => (match cl[ob.1]? with
      | some r => decide (r.1 = M.1.cls)
      | none => false)
    | none => false)
  | 0, .inr (4, c) :: Vs => decide (Vs.length = M.2.2.2.2) && (match cl[c]? with
    | some r => decide (r.1 = M.1.cls)
    | none => false)
  | 2, .inr (0, _) :: Vs => decide (Vs.length = M.2.2.2.2)
  | _, _ => false
theorem ab_self_ok {M : ck_MT} {o : Nat} {Vs : List ck_V} {us : List mm_v} (hh : ab_self cl sh nc M o Vs = true) (hs : ab_sh sh nc h) (hg : ab_gs ν h n Vs us) : mm_self cl M o us h := by
  unfold ab_self at hh
  split at hh
  · show us.length = _
    rw [← hg.len]
    exact of_decide_eq_true hh
  · rename_i i Vs
    simp only [Bool.and_eq_true, decide_eq_true_eq] at hh
    obtain ⟨h1, h2⟩ := hh
    obtain ⟨v, vs', rfl, hv, h3⟩ := hg.pop
    have ev : v = mm_A (some i) := hv
    subst ev
    split at h2
    · rename_i ob hob
      split at h2
      · rename_i r hr
        obtain ⟨g1, g2⟩ := ck_obj_ok hob hs
        exact ⟨by rw [← h3.len]; exact h1, g1, ob, r, g2, hr, of_decide_eq_true h2⟩
      · cases h2
    · cases h2
  · rename_i c Vs
    simp only [Bool.and_eq_true, decide_eq_true_eq] at hh
    obtain ⟨h1, h2⟩ := hh
    obtain ⟨v, vs', rfl, hv, h3⟩ := hg.pop
    obtain ⟨i, e, t1, t2, -⟩ := hv
    subst e
    split at h2
    · rename_i r hr
      exact ⟨by rw [← h3.len]; exact h1, t1, (c, 2), r, t2, hr, of_decide_eq_true h2⟩
    · cases h2
  · rename_i i Vs
    obtain ⟨v, vs', rfl, hv, h3⟩ := hg.pop
    have ev : v = mm_A (some i) := hv
    subst ev
    show vs'.length = _
    rw [← h3.len]
    exact of_decide_eq_true hh
  · cases hh
def ab_cal (cl : List vw_C) (mts : List ck_MT) (ml : List (Nat × Nat × Nat)) (cs : List ab_C) (sh : List ck_Sh) (wr : List (Nat × ab_P)) (CM SM FM LM : Nat) (pc : Nat) (i : Instr × Nat) (I : List ck_I) (L : List (Nat × ck_V)) (S : List ck_V) (X : ab_X) (k : Nat × Nat × Nat) : Option (List (Nat × ab_S)) := match ck_inv i with
  | none => none
  | some xo => match ml.find? (fun q => q.1 == xo.1) with
    | none => none
    | some q => match mts[q.2.2]? with
      | none => none
      | some M => match cs.find? (fun co => decide (co.1 = q.2.2) && ab_fitC co I S X k.1) with
        | none => none
        | some co => if q.2.1 < 6 ∧ q.2.1 % 3 = xo.2 ∧ ab_in k.1 X = true ∧ ab_self cl sh k.1 M xo.2 (S.take co.2.2.1.length).reverse = true ∧ (S.take co.2.2.1.length).all ck_one = true ∧ (S.drop co.2.2.1.length).all ck_one = true ∧ (S.drop co.2.2.1.length).length ≤ 8 ∧ co.2.2.2.2.2.2.1 + 1 ≤ FM ∧ 8 + (M.2.2.1 + 11) + co.2.2.2.2.2.2.2.1 ≤ LM ∧ k.2.1 + co.2.2.2.2.2.2.2.2.1 ≤ CM ∧ k.2.2 + co.2.2.2.2.2.2.2.2.2 ≤ SM ∧ co.2.2.2.2.1.all (fun x => wr.any (fun w => w.1 == x.1 && ab_ssub x.2 w.2)) = true then ab_ends co pc (ck_forms (S.take co.2.2.1.length).reverse) I L (S.drop co.2.2.1.length) X k co.2.2.2.2.2.1 else none
theorem ab_cal_ok {ml : List (Nat × Nat × Nat)} {cs : List ab_C} {i : Instr × Nat} {xs : List (Nat × ab_S)} (hh : ab_cal cl mts ml cs sh wr CM SM FM LM pc i I L S X (nc, mc, ms) = some xs) (hn : n ≤ I.length) (hG : ab_G Gh sh wr h0 I L S X nc ν Lm Sm h) (K : ∀ x ∈ xs, ab_K Wp Gh sh wr h0 n ν x) : mm_cal cl mts ml (cs.map (ab_m Gh sh)) CM SM FM LM pc i Lm Sm h (mc, ms) Wp := by
  have hsh := hG.2.2.2.2.2.1
  unfold ab_cal at hh
  split at hh
  · cases hh
  · rename_i xo hxo
    split at hh
    · cases hh
    · rename_i q hq
      split at hh
      · cases hh
      · rename_i M hM
        split at hh
        · cases hh
        · rename_i co hco
          split at hh
          · rename_i hc
            obtain ⟨c0, c1, c11, c2, c3, c4, c5, c6, c7, c8, c9, c10⟩ := hc
            have hcm := List.mem_of_find?_eq_some hco
            have hcf := List.find?_some hco
            simp only [Bool.and_eq_true, decide_eq_true_eq, ab_fitC] at hcf
            obtain ⟨hmt, ⟨hnc, hav⟩, hsd⟩ := hcf
            have hgs := hG.gs
            rw [← List.take_append_drop co.2.2.1.length S] at hgs
            obtain ⟨ar, rest, hvs, ga, gr⟩ := hgs.split
            subst hvs
            have gas := ga.rev
            have hone : ((S.take co.2.2.1.length).reverse).all ck_one = true := by rw [List.all_reverse]; exact c3
            have hG' := hG.stk gr
            obtain ⟨g1, g2, g3, g4, g5, g6, g7⟩ := hG'
            simp only [ab_in, Bool.and_eq_true, List.all_eq_true, decide_eq_true_eq] at c11
            refine ⟨xo, q, M, ab_m Gh sh co, ar.reverse, rest, hxo, hq, c0, c1, hM, List.mem_map.mpr ⟨co, hcm, rfl⟩, hmt, by rw [List.reverse_reverse], ab_self_ok c2 hsh gas, by rw [ab_wd c4 gr]; exact c5, c6, c7, c8, c9, ⟨by rw [hnc]; exact hsh, ab_avb_ok hav hG.gi gas, ab_subD_ok hsd hG.gi hG.2.2.2.1 hG.2.2.2.2.1⟩, ?_⟩
            rintro r h' ⟨o, ho, o1, o2, o3, o4, o5⟩ hle hrin
            obtain ⟨f1, f2⟩ := ck_forms_ok hone gas
            obtain ⟨J, j1, j2, j3⟩ := ck_cutZ_ok g1 o2 f2 f1
            have hE' := ab_keepE_ok g1 o5 (fun q hq => Nat.lt_of_lt_of_le (c11.2 q hq) g6.1) g5
            obtain ⟨J2, k1, k2, k3⟩ := ab_meet_ok (Gh := Gh) (D := o.2.2.1) j2 hE' o3
            have hlen : J2.length = I.length := by rw [k3, j3]
            have hGn : ab_G Gh sh wr h0 J2 L (S.drop co.2.2.1.length) (o.2.2.1 ++ ab_keepD co.2.2.2.2.1 X.1, ab_keepE co.2.2.2.2.1 I X.2) o.2.2.2 ν Lm rest h' := by
              refine ⟨k2, by rw [hlen]; exact g2.on o5.1 (Nat.le_refl _) (fun _ _ => rfl), by rw [hlen]; exact g3.on o5.1 (Nat.le_refl _) (fun _ _ => rfl), fun x hx => ?_, by rw [hlen]; exact hE', o4, g7.trans ⟨o5.1, fun j k hj hw => o5.2 j k hj (fun w hw1 hw2 hw3 => ?_)⟩⟩
              · rcases List.mem_append.mp hx with hx | hx
                · exact o3 x hx
                · exact ab_keepD_ok o5 (fun x hx => Nat.lt_of_lt_of_le (c11.1 x hx) g6.1) g4 x hx
              · obtain ⟨w', w1, w2⟩ := List.any_eq_true.mp (List.all_eq_true.mp c10 w hw1)
                simp only [Bool.and_eq_true, beq_iff_eq] at w2
                exact hw w' w1 (by rw [w2.1, hw2]) (ab_ssub_ok w2.2 hw3)
            obtain ⟨a, ha, hsub⟩ := ab_ends_ok hh ho
            unfold ab_after at ha
            rw [j1] at ha
            dsimp only at ha
            rw [k1] at ha
            dsimp only at ha
            split at ha
            · rename_i ho1
              cases ha
              rw [ho1] at o1
              cases r with
              | none => exact K _ (hsub _ List.mem_cons_self) ν Lm _ _ (fun _ _ => rfl) hGn
              | some v => exact o1.elim
            · rename_i F ho1
              rw [ho1] at o1
              split at ha
              · rename_i r2 hpu
                cases ha
                cases r with
                | none => exact o1.elim
                | some v => exact ab_pushF_ok (pc := pc + 3) hGn (by omega) o1 hpu (K _ (hsub _ List.mem_cons_self))
              · cases ha
          · cases hh
/-! returns -/
def ck_intsOk (I : List ck_I) : Nat → List (Int × Int) → Bool
  | _, [] => true
  | k, z :: zs => (match I[k]? with
    | some q => decide (z.1 ≤ q.1) && decide (q.2.1 ≤ z.2)
    | none => false) && ck_intsOk I (k + 1) zs
theorem ck_intsOk_ok : ∀ {zs : List (Int × Int)} {xs : List Int32} {k : Nat}, ck_intsOk I k zs = true → ck_gi ν I → zs.length = xs.length → (∀ (j : Nat) (x : Int32), xs[j]? = some x → ν (k + j) = x.toInt) → ck_iv zs xs
  | [], [], _, _, _, _, _ => trivial
  | z :: zs, x :: xs, k, hh, hi, hl, hν => by
    simp only [ck_intsOk, Bool.and_eq_true] at hh
    obtain ⟨h1, h2⟩ := hh
    have e : ν k = x.toInt := by simpa using hν 0 x rfl
    split at h1
    · rename_i q hq
      simp only [Bool.and_eq_true, decide_eq_true_eq] at h1
      obtain ⟨a1, a2, -, -⟩ := hi k q hq
      refine ⟨by omega, by omega, ck_intsOk_ok h2 hi (by simpa using hl) (fun j y hy => ?_)⟩
      have := hν (j + 1) y (by simpa using hy)
      rw [← this]; congr 1; omega
    · cases h1
  | [], _ :: _, _, _, _, hl, _ => by simp at hl
  | _ :: _, [], _, _, _, hl, _ => by simp at hl
def ab_end (outs : List ab_O) (n0 : Nat) (I : List ck_I) (V : Option ck_V) (X : ab_X) (nc : Nat) : Bool := outs.any fun o => decide (o.2.2.2 = nc) && decide (o.2.1.length = n0) && (match V, o.1 with
  | none, none => true
  | some V, some F => ck_subF (ck_toF I V) F
  | _, _ => false) && ck_intsOk I 0 o.2.1 && ab_subD I X o.2.2.1
def ab_ret (co : ab_C) (ret : Option FieldType) (n0 : Nat) (i : Instr × Nat) (I : List ck_I) (S : List ck_V) (X : ab_X) (k : Nat × Nat × Nat) : Bool := match i, S with
  | (.ireturn, 1), [.inl f] => (match ret with
    | some .int => true
    | some .boolean => decide (0 ≤ (ck_rng I f).1) && decide ((ck_rng I f).2 ≤ 1)
    | _ => false) && ab_end co.2.2.2.2.2.1 n0 I (some (.inl f)) X k.1 && decide (k.2.1 ≤ co.2.2.2.2.2.2.2.2.1) && decide (k.2.2 ≤ co.2.2.2.2.2.2.2.2.2)
  | (.areturn, 1), [.inr q] => (match ret with
    | some (.object _) => true
    | some (.array _) => true
    | _ => false) && ck_one (.inr q) && ab_end co.2.2.2.2.2.1 n0 I (some (.inr q)) X k.1 && decide (k.2.1 ≤ co.2.2.2.2.2.2.2.2.1) && decide (k.2.2 ≤ co.2.2.2.2.2.2.2.2.2)
  | (.return_, 1), [] => (match ret with
    | none => true
    | _ => false) && ab_end co.2.2.2.2.2.1 n0 I none X k.1 && decide (k.2.1 ≤ co.2.2.2.2.2.2.2.2.1) && decide (k.2.2 ≤ co.2.2.2.2.2.2.2.2.2)
  | _, _ => false
theorem ab_end_ok {co : ab_C} {n0 : Nat} {V : Option ck_V} {v : Option mm_v} {us : List mm_v} (hh : ab_end co.2.2.2.2.2.1 n0 I V X nc = true) (hG : ab_G Gh sh co.2.2.2.2.1 h0 I L S X nc ν Lm Sm h) (hV : match V, v with
    | none, none => True
    | some V, some v => ab_gv ν h I.length V v
    | _, _ => False) (hn0 : (mm_ints us).length = n0) (hν : ∀ (j : Nat) (x : Int32), (mm_ints us)[j]? = some x → ν j = x.toInt) : (ab_m Gh sh co).2.2.2 us h0 v h := by
  obtain ⟨o, ho, hq⟩ := List.any_eq_true.mp hh
  simp only [Bool.and_eq_true, decide_eq_true_eq] at hq
  obtain ⟨⟨⟨⟨h1, h2⟩, h3⟩, h4⟩, h5⟩ := hq
  obtain ⟨g1, g2, g3, g4, g5, g6, g7⟩ := hG
  refine ⟨o, ho, ?_, ck_intsOk_ok h4 g1 (by omega) (fun j x hx => by rw [Nat.zero_add]; exact hν j x hx), ab_subD_ok h5 g1 g4 g5, by rw [h1]; exact g6, g7⟩
  cases V with
  | none =>
    cases v with
    | none =>
      cases ho1 : o.1 with
      | none => trivial
      | some F => rw [ho1] at h3; cases h3
    | some v => exact hV.elim
  | some V =>
    cases v with
    | none => exact hV.elim
    | some v =>
      cases ho1 : o.1 with
      | none => rw [ho1] at h3; cases h3
      | some F =>
        rw [ho1] at h3
        exact ck_subF_va h3 (ck_toF_ok g1 hV)
theorem ab_ret_ok {co : ab_C} {ret : Option FieldType} {n0 : Nat} {i : Instr × Nat} {us : List mm_v} (hh : ab_ret co ret n0 i I S X (nc, mc, ms) = true) (hn0 : (mm_ints us).length = n0) (hν : ∀ (j : Nat) (x : Int32), (mm_ints us)[j]? = some x → ν j = x.toInt) (hG : ab_G Gh sh co.2.2.2.2.1 h0 I L S X nc ν Lm Sm h) : mm_rt ret (fun r h' k => h0.1 ≤ h'.1 ∧ k.1 ≤ (ab_m Gh sh co).2.1.2.2.1 ∧ k.2 ≤ (ab_m Gh sh co).2.1.2.2.2 ∧ (ab_m Gh sh co).2.2.2 us h0 r h') i Sm h (mc, ms) := by
  have hle := hG.2.2.2.2.2.2.1.1
  unfold ab_ret at hh
  split at hh
  · simp only [Bool.and_eq_true, decide_eq_true_eq] at hh
    obtain ⟨⟨⟨h1, h2⟩, h3⟩, h4⟩ := hh
    obtain ⟨v, vs1, rfl, hv, g1⟩ := hG.gs.pop
    have hv' := hv
    obtain ⟨w, x, rfl, e1⟩ := hv'
    cases vs1 with
    | cons a b => exact g1.elim
    | nil =>
      refine ⟨?_, hle, h3, h4, ab_end_ok (v := some (mm_I x)) h2 hG hv hn0 hν⟩
      have rx := ck_rng32 hG.gi e1
      split at h1
      · exact ⟨_, rfl, rfl⟩
      · simp only [Bool.and_eq_true, decide_eq_true_eq] at h1
        rcases ab_01 (x := x) (by omega) (by omega) with rfl | rfl <;> exact ⟨_, rfl, rfl⟩
      · cases h1
  · simp only [Bool.and_eq_true, decide_eq_true_eq] at hh
    obtain ⟨⟨⟨⟨h1, h00⟩, h2⟩, h3⟩, h4⟩ := hh
    obtain ⟨v, vs1, rfl, hv, g1⟩ := hG.gs.pop
    cases vs1 with
    | cons a b => exact g1.elim
    | nil =>
      have hrf := ck_one_rf h00 hv
      rcases v with x | x | x
      · cases hrf
      · cases hrf
      · refine ⟨?_, hle, h3, h4, ab_end_ok (v := some (.inr (.inr x))) h2 hG hv hn0 hν⟩
        split at h1
        · exact ⟨_, rfl, Or.inl ⟨_, rfl⟩⟩
        · exact ⟨_, rfl, Or.inr ⟨_, rfl⟩⟩
        · cases h1
  · simp only [Bool.and_eq_true, decide_eq_true_eq] at hh
    obtain ⟨⟨⟨h1, h2⟩, h3⟩, h4⟩ := hh
    have g1 := hG.gs
    cases Sm with
    | cons a b => exact g1.elim
    | nil =>
      refine ⟨?_, hle, h3, h4, ab_end_ok (V := none) (v := none) h2 hG trivial hn0 hν⟩
      split at h1
      · rfl
      · cases h1
  · cases hh
end ABX
