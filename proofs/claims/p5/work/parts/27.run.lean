/-! A RUN OF TABLES OVER THE PURE MACHINE, 8: the run itself, with loops by their heads -/
/-- a head: its place, what is known there, the symbol that goes up (0) or down (1); 2: no loop, only a place to begin anew -/
abbrev ab_Hd : Type := Nat × ab_S × Nat × Nat
/-- what the places of a head's table are, told by the table that comes to it -/
def ck_uni (t : List (Option ck_L)) (Vh V : ck_V) : Option (List (Option ck_L)) := match Vh, V with
  | .inr a, .inr b => if ck_subF (.inr b) (.inr a) = true then some t else none
  | .inl h, .inl f => if h.2.1 = 0 then (if f.2.1 = 0 ∧ f.2.2 = h.2.2 then some t else none)
    else if h.2.1 = 1 ∧ h.2.2 = 0 then (match t[h.1]? with
      | some none => some (t.set h.1 (some f))
      | some (some g) => if g = f then some t else none
      | none => none)
    else none
  | _, _ => none
def ck_uniL (L : List (Nat × ck_V)) : List (Option ck_L) → List (Nat × ck_V) → Option (List (Option ck_L))
  | t, [] => some t
  | t, q :: Lh => match ck_get L q.1 with
    | some V => match ck_uni t q.2 V with
      | some t' => ck_uniL L t' Lh
      | none => none
    | none => none
def ck_uniS : List (Option ck_L) → List ck_V → List ck_V → Option (List (Option ck_L))
  | t, [], [] => some t
  | t, Vh :: Sh, V :: S => match ck_uni t Vh V with
    | some t' => ck_uniS t' Sh S
    | none => none
  | _, _, _ => none
def ck_id (n : Nat) : List (Option ck_L) := (List.range n).map fun j => some (j, 1, 0)
def ck_bnd (I : List ck_I) : List ck_I → List (Option ck_L) → Bool
  | [], [] => true
  | q :: Ih, some f :: t => decide (q.2.2.1 = 0) && decide (q.1 ≤ (ck_rng I f).1) && decide ((ck_rng I f).2 ≤ q.2.1) && ck_bnd I Ih t
  | _, _ => false
def ck_wfT (n : Nat) (t : List (Option ck_L)) : Bool := t.all fun o => match o with
  | some f => decide (f.2.1 = 0) || decide (f.1 < n)
  | none => false
/-- the table σ is one of those that the head's table speaks of, the first n symbols being the same -/
def ab_subS (n : Nat) (σ h : ab_S) : Option (List (Option ck_L)) := match ck_uniL σ.2.1 (ck_id n ++ List.replicate (h.1.length - n) none) h.2.1 with
  | some t => match ck_uniS t h.2.2.1 σ.2.2.1 with
    | some t => if n ≤ h.1.length ∧ ck_bnd σ.1 h.1 t = true ∧ ck_wfT σ.1.length t = true ∧ h.2.2.2.1.2.isEmpty = true ∧ ab_subD σ.1 σ.2.2.2.1 h.2.2.2.1.1 = true ∧ σ.2.2.2.2.1 = h.2.2.2.2.1 ∧ σ.2.2.2.2.2.1 = h.2.2.2.2.2.1 ∧ σ.2.2.2.2.2.2 = h.2.2.2.2.2.2 then some t else none
    | none => none
  | none => none
/-- the loop's symbol has moved on -/
def ck_more (I : List ck_I) (μ d : Nat) (t : List (Option ck_L)) : Bool := match t[μ]? with
  | some (some f) => decide (f.2.1 = 1) && (if f.1 = μ then (if d = 0 then decide (1 ≤ f.2.2) else decide (f.2.2 ≤ -1)) else (match I[f.1]? with
    | some q => decide (q.2.2.2.1 = μ) && decide (q.2.2.2.2.1 = 1) && (if d = 0 then decide (q.2.2.1 = 1) && decide (1 ≤ f.2.2 + q.2.2.2.2.2) else decide (q.2.2.1 = 2) && decide (f.2.2 + q.2.2.2.2.2 ≤ -1))
    | none => false))
  | _ => false
def ab_run (step : Nat → List ck_I → List (Nat × ck_V) → List ck_V → ab_X → Nat × Nat × Nat → Option (List (Nat × ab_S))) (hs : List ab_Hd) (sp : List (Nat × Nat × Int)) (lv : List (Nat × ab_S)) : Nat → List (ab_Hd × Nat) → Nat → Nat → ab_S → Bool
  | 0, _, _, _, _ => false
  | fuel + 1, Γ, kp, pc, σ => decide (kp ≤ σ.1.length) && match lv.find? (fun x => x.1 == pc) with
    | some x => (ab_subS kp σ x.2).isSome
    | none => match sp.find? (fun q => q.1 == pc && (match σ.1[q.2.1]? with
      | some r => decide (r.1 ≤ q.2.2) && decide (q.2.2 < r.2.1)
      | none => false)) with
    | some q => (match ck_cutHi σ.1 q.2.1 q.2.2 with
        | some J => ab_run step hs sp lv fuel Γ kp pc (J, σ.2)
        | none => true) && (match ck_cutLo σ.1 q.2.1 (q.2.2 + 1) with
        | some J => ab_run step hs sp lv fuel Γ kp pc (J, σ.2)
        | none => true)
    | none => match Γ.find? (fun g => g.1.1 == pc && (ab_subS g.2 σ g.1.2.1).isSome) with
      | some g => (match ab_subS g.2 σ g.1.2.1 with
        | some t => ck_more σ.1 g.1.2.2.1 g.1.2.2.2 t
        | none => false)
      | none => match hs.find? (fun h => h.1 == pc && (ab_subS kp σ h.2.1).isSome) with
        | some h => (match ab_subS kp σ h.2.1 with
          | some _ => (match step pc h.2.1.1 h.2.1.2.1 h.2.1.2.2.1 h.2.1.2.2.2.1 h.2.1.2.2.2.2 with
            | some xs => decide (h.2.2.2 ≤ 2) && xs.all (fun x => if h.2.2.2 = 2 then ab_run step hs sp lv fuel Γ kp x.1 x.2 else decide (h.2.2.1 < h.2.1.1.length) && ab_run step hs sp lv fuel ((h, kp) :: Γ) h.2.1.1.length x.1 x.2)
            | none => false)
          | none => false)
        | none => match step pc σ.1 σ.2.1 σ.2.2.1 σ.2.2.2.1 σ.2.2.2.2 with
          | some xs => xs.all (fun x => ab_run step hs sp lv fuel Γ kp x.1 x.2)
          | none => false
section ABT
variable {Gh : Nat → (Nat → Int32) → Prop} {sh : List ck_Sh} {wr : List (Nat × ab_P)} {h0 : mm_h} {I I' : List ck_I} {L : List (Nat × ck_V)} {S S' : List ck_V} {X : ab_X} {nc mc ms n : Nat} {ν ν' : Nat → Int} {Lm : List (Nat × mm_v)} {Sm Sm' : List mm_v} {h : mm_h} {pc nL : Nat} {Wp : mm_s → Prop}
def ck_evT (ν : Nat → Int) (t : List (Option ck_L)) (j : Nat) : Int := match t[j]? with
  | some (some f) => ck_ev ν f
  | _ => 0
/-- t' only says more than t -/
def ck_ext (t t' : List (Option ck_L)) : Prop := t'.length = t.length ∧ ∀ (j : Nat) (f : ck_L), t[j]? = some (some f) → t'[j]? = some (some f)
theorem ck_ext.rf {t : List (Option ck_L)} : ck_ext t t := ⟨rfl, fun _ _ h => h⟩
theorem ck_ext.trans {a b d : List (Option ck_L)} (h1 : ck_ext a b) (h2 : ck_ext b d) : ck_ext a d := ⟨h2.1.trans h1.1, fun j f h => h2.2 j f (h1.2 j f h)⟩
theorem ck_uni_ok {t t' : List (Option ck_L)} {Vh V : ck_V} (hh : ck_uni t Vh V = some t') : ck_ext t t' ∧ ∀ {t2 : List (Option ck_L)} {nh : Nat}, ck_ext t' t2 → t2.length = nh → ∀ {n : Nat} {v : mm_v}, ab_gv ν h n V v → ab_gv (ck_evT ν t2) h nh Vh v := by
  unfold ck_uni at hh
  split at hh
  · split at hh
    · rename_i a b e
      cases hh
      exact ⟨ck_ext.rf, fun {t2 nh} _ _ {n v} hv => ck_subF_kv e hv⟩
    · cases hh
  · rename_i h0 f
    split at hh
    · rename_i ha
      split at hh
      · rename_i hb
        cases hh
        refine ⟨ck_ext.rf, fun {t2 nh} _ _ {n v} hv => ?_⟩
        obtain ⟨w, x, rfl, e1⟩ := hv
        refine ⟨Or.inl ha, x, rfl, ?_⟩
        rw [e1]; unfold ck_ev; rw [ha, hb.1, Int.zero_mul, Int.zero_mul, hb.2]
      · cases hh
    · split at hh
      · rename_i hab
        have fin : ∀ {t2 : List (Option ck_L)} {nh : Nat}, t2[h0.1]? = some (some f) → t2.length = nh → ∀ {n : Nat} {v : mm_v}, ab_gv ν h n (.inl f) v → ab_gv (ck_evT ν t2) h nh (.inl h0) v := fun {t2 nh} h1 h2 {n v} hv => by
          obtain ⟨w, x, rfl, e1⟩ := hv
          refine ⟨Or.inr (by rw [← h2]; exact (List.getElem?_eq_some_iff.mp h1).1), x, rfl, ?_⟩
          rw [e1]
          show _ = h0.2.1 * ck_evT ν t2 h0.1 + h0.2.2
          unfold ck_evT
          rw [h1, hab.1, hab.2, Int.one_mul, Int.add_zero]
        split at hh
        · rename_i hn
          cases hh
          have hl : h0.1 < t.length := (List.getElem?_eq_some_iff.mp hn).1
          refine ⟨⟨List.length_set, fun j g hg => ?_⟩, fun {t2 nh} h1 h2 {n v} hv => fin (h1.2 _ _ (List.getElem?_set_self hl)) h2 hv⟩
          by_cases hj : h0.1 = j
          · rw [← hj, hn] at hg; cases hg
          · rw [List.getElem?_set_ne hj]; exact hg
        · rename_i g hg
          split at hh
          · rename_i e
            cases hh
            subst e
            exact ⟨ck_ext.rf, fun {t2 nh} h1 h2 {n v} hv => fin (h1.2 _ _ hg) h2 hv⟩
          · cases hh
        · cases hh
      · cases hh
  · cases hh
theorem ck_uniL_ok : ∀ {Lh : List (Nat × ck_V)} {t t' : List (Option ck_L)}, ck_uniL L t Lh = some t' → ck_ext t t' ∧ ∀ {t2 : List (Option ck_L)} {nh : Nat}, ck_ext t' t2 → t2.length = nh → ∀ {n : Nat}, ab_gl ν h n L Lm → ab_gl (ck_evT ν t2) h nh Lh Lm
  | [], t, t', hh => by
    cases hh
    exact ⟨ck_ext.rf, fun {t2 nh} _ _ {n} hl q hq => by cases hq⟩
  | q :: Lh, t, t', hh => by
    unfold ck_uniL at hh
    split at hh
    · rename_i V hV
      split at hh
      · rename_i t1 ht1
        obtain ⟨a1, a2⟩ := ck_uni_ok (ν := ν) (h := h) ht1
        obtain ⟨b1, b2⟩ := ck_uniL_ok hh
        refine ⟨a1.trans b1, fun {t2 nh} h1 h2 {n} hl r hr => ?_⟩
        rcases List.mem_cons.mp hr with rfl | hr
        · obtain ⟨v, c3, c4⟩ := hl.get hV
          exact ⟨v, c3, a2 (b1.trans h1) h2 c4⟩
        · exact b2 h1 h2 hl r hr
      · cases hh
    · cases hh
theorem ck_uniS_ok : ∀ {Sh S : List ck_V} {vs : List mm_v} {t t' : List (Option ck_L)}, ck_uniS t Sh S = some t' → ck_ext t t' ∧ ∀ {t2 : List (Option ck_L)} {nh : Nat}, ck_ext t' t2 → t2.length = nh → ∀ {n : Nat}, ab_gs ν h n S vs → ab_gs (ck_evT ν t2) h nh Sh vs
  | [], [], vs, t, t', hh => by
    cases hh
    refine ⟨ck_ext.rf, fun {t2 nh} _ _ {n} hs => ?_⟩
    cases vs with
    | nil => trivial
    | cons a b => exact hs.elim
  | Vh :: Sh, V :: S, vs, t, t', hh => by
    unfold ck_uniS at hh
    split at hh
    · rename_i t1 ht1
      obtain ⟨a1, a2⟩ := ck_uni_ok (ν := ν) (h := h) ht1
      refine ⟨a1.trans (ck_uniS_ok (vs := []) hh).1, fun {t2 nh} h1 h2 {n} hs => ?_⟩
      obtain ⟨v, vs', rfl, g1, g2⟩ := hs.pop
      obtain ⟨b1, b2⟩ := ck_uniS_ok (vs := vs') hh
      exact ⟨a2 (b1.trans h1) h2 g1, b2 h1 h2 g2⟩
    · cases hh
  | [], _ :: _, _, _, _, hh => by simp [ck_uniS] at hh
  | _ :: _, [], _, _, _, hh => by simp [ck_uniS] at hh
theorem ck_bnd_ok : ∀ {Ih : List ck_I} {t : List (Option ck_L)}, ck_bnd I Ih t = true → Ih.length = t.length ∧ ∀ (j : Nat) (q : ck_I), Ih[j]? = some q → q.2.2.1 = 0 ∧ ∃ f, t[j]? = some (some f) ∧ q.1 ≤ (ck_rng I f).1 ∧ (ck_rng I f).2 ≤ q.2.1
  | [], [], _ => ⟨rfl, fun j q h => by simp at h⟩
  | q :: Ih, some f :: t, hh => by
    simp only [ck_bnd, Bool.and_eq_true, decide_eq_true_eq] at hh
    obtain ⟨⟨⟨h1, h2⟩, h3⟩, h4⟩ := hh
    obtain ⟨a1, a2⟩ := ck_bnd_ok h4
    refine ⟨by simp [a1], fun j r hr => ?_⟩
    match j, hr with
    | 0, hr =>
      have e : q = r := by simpa using hr
      subst e
      exact ⟨h1, f, rfl, h2, h3⟩
    | j + 1, hr =>
      obtain ⟨b1, g, b2, b3⟩ := a2 j r (by simpa using hr)
      exact ⟨b1, g, by simpa using b2, b3⟩
  | q :: Ih, none :: t, hh => by simp [ck_bnd] at hh
  | [], _ :: _, hh => by simp [ck_bnd] at hh
  | _ :: _, [], hh => by simp [ck_bnd] at hh
theorem ck_rngT {f : ck_L} (hi : ck_gi ν I) (hw : ck_wf I.length f) : (ck_rng I f).1 ≤ ck_ev ν f ∧ ck_ev ν f ≤ (ck_rng I f).2 := by
  by_cases h0 : f.2.1 = 0
  · unfold ck_rng ck_ev
    rw [if_pos h0, h0, Int.zero_mul, Int.zero_add]
    exact ⟨Int.le_refl _, Int.le_refl _⟩
  · have hl : f.1 < I.length := hw.resolve_left h0
    obtain ⟨a1, a2, -, -⟩ := hi f.1 _ (List.getElem?_eq_getElem hl)
    unfold ck_rng ck_ev
    rw [if_neg h0, List.getElem?_eq_getElem hl]
    dsimp only
    split
    · rename_i hp
      have b1 := Int.mul_le_mul_of_nonneg_left a1 hp
      have b2 := Int.mul_le_mul_of_nonneg_left a2 hp
      dsimp only
      omega
    · rename_i hp
      have hp' : f.2.1 ≤ 0 := by omega
      have b1 := Int.mul_le_mul_of_nonpos_left hp' a1
      have b2 := Int.mul_le_mul_of_nonpos_left hp' a2
      dsimp only
      omega
theorem ab_subS_ok {σ g : ab_S} {t : List (Option ck_L)} (hs : ab_subS n σ g = some t) (hG : ab_G Gh sh wr h0 σ.1 σ.2.1 σ.2.2.1 σ.2.2.2.1 σ.2.2.2.2.1 ν Lm Sm h) : ab_G Gh sh wr h0 g.1 g.2.1 g.2.2.1 g.2.2.2.1 g.2.2.2.2.1 (ck_evT ν t) Lm Sm h ∧ (∀ j, j < n → ck_evT ν t j = ν j) ∧ n ≤ g.1.length ∧ σ.2.2.2.2.2.1 = g.2.2.2.2.2.1 ∧ σ.2.2.2.2.2.2 = g.2.2.2.2.2.2 := by
  unfold ab_subS at hs
  split at hs
  · rename_i t1 ht1
    split at hs
    · rename_i t2 ht2
      split at hs
      · rename_i hc
        obtain ⟨c0, c1, c2, c33, c3, c4, c5, c6⟩ := hc
        cases hs
        obtain ⟨g1, g2, g3, g4, g5, g6, g7⟩ := hG
        obtain ⟨a1, a2⟩ := ck_uniL_ok (ν := ν) (h := h) (Lm := Lm) ht1
        obtain ⟨b1, b2⟩ := ck_uniS_ok (ν := ν) (h := h) (vs := Sm) ht2
        obtain ⟨d1, d2⟩ := ck_bnd_ok c1
        have hwf : ∀ (j : Nat) (f : ck_L), t[j]? = some (some f) → ck_wf σ.1.length f := fun j f hf => by
          have := List.all_eq_true.mp c2 _ (List.mem_of_getElem? hf)
          simp only [Bool.or_eq_true, decide_eq_true_eq] at this
          exact this
        have hnil : g.2.2.2.1.2 = [] := List.isEmpty_iff.mp c33
        refine ⟨⟨?_, a2 b1 d1.symm g2, b2 ck_ext.rf d1.symm g3, ab_subD_ok c3 g1 g4 g5, (fun q hq => by rw [hnil] at hq; cases hq), (by rw [← c4]; exact g6), g7⟩, ?_, c0, c5, c6⟩
        · intro j q hq
          obtain ⟨e0, f, e1, e2, e3⟩ := d2 j q hq
          have hr := ck_rngT g1 (hwf j f e1)
          have ev : ck_evT ν t j = ck_ev ν f := by unfold ck_evT; rw [e1]
          rw [ev]
          exact ⟨by omega, by omega, fun z => by omega, fun z => by omega⟩
        · intro j hj
          have h1 : (ck_id n ++ List.replicate (g.1.length - n) (none : Option ck_L))[j]? = some (some (j, 1, 0)) := by
            rw [List.getElem?_append_left (by simp [ck_id]; exact hj)]
            simp [ck_id, hj]
          have h2 := (a1.trans b1).2 _ _ h1
          unfold ck_evT
          rw [h2]
          simp [ck_ev]
      · cases hs
    · cases hs
  · cases hs
theorem ck_more_ok {μ d : Nat} {t : List (Option ck_L)} (hh : ck_more I μ d t = true) (hi : ck_gi ν I) : if d = 0 then ν μ < ck_evT ν t μ else ck_evT ν t μ < ν μ := by
  unfold ck_more at hh
  split at hh
  · rename_i f hf
    have ev : ck_evT ν t μ = ck_ev ν f := by unfold ck_evT; rw [hf]
    rw [ev]
    simp only [Bool.and_eq_true, decide_eq_true_eq] at hh
    obtain ⟨h1, h2⟩ := hh
    unfold ck_ev
    rw [h1, Int.one_mul]
    split at h2
    · rename_i hm
      rw [hm]
      split at h2
      · rename_i hd
        rw [if_pos hd]
        have := of_decide_eq_true h2
        omega
      · rename_i hd
        rw [if_neg hd]
        have := of_decide_eq_true h2
        omega
    · split at h2
      · rename_i q hq
        obtain ⟨-, -, a3, a4⟩ := hi _ _ hq
        simp only [Bool.and_eq_true, decide_eq_true_eq] at h2
        obtain ⟨⟨k1, k2⟩, k3⟩ := h2
        split at k3
        · rename_i hd
          rw [if_pos hd]
          simp only [Bool.and_eq_true, decide_eq_true_eq] at k3
          have := (a3 k3.1).2
          unfold ck_ev at this
          rw [k1, k2, Int.one_mul] at this
          omega
        · rename_i hd
          rw [if_neg hd]
          simp only [Bool.and_eq_true, decide_eq_true_eq] at k3
          have := (a4 k3.1).2
          unfold ck_ev at this
          rw [k1, k2, Int.one_mul] at this
          omega
      · cases h2
  · cases hh
theorem ck_decU {a b w : Int} {N : Nat} (h1 : b < a) (h2 : a ≤ w) (hN : (w - b).toNat < N + 1) : (w - a).toNat < N := by omega
theorem ck_decD {a b w : Int} {N : Nat} (h1 : a < b) (h2 : w ≤ a) (hN : (b - w).toNat < N + 1) : (a - w).toNat < N := by omega
/-- what a loop's head promises while its body is walked: from the head on all goes well once its symbol has moved -/
def ab_PG (Wp : mm_s → Prop) (Gh : Nat → (Nat → Int32) → Prop) (sh : List ck_Sh) (wr : List (Nat × ab_P)) (h0 : mm_h) (n0 : Nat) (ν0 ν : Nat → Int) (g : ab_Hd × Nat) : Prop :=
  ∃ νg : Nat → Int, (∀ j, j < g.1.2.1.1.length → ν j = νg j) ∧ n0 ≤ g.2 ∧ (∀ j, j < n0 → νg j = ν0 j) ∧ g.1.2.2.1 < g.1.2.1.1.length ∧ ∀ (ν' : Nat → Int) (Lm : List (Nat × mm_v)) (Sm : List mm_v) (h : mm_h), (∀ j, j < g.2 → ν' j = νg j) → (if g.1.2.2.2 = 0 then νg g.1.2.2.1 < ν' g.1.2.2.1 else ν' g.1.2.2.1 < νg g.1.2.2.1) → ab_G Gh sh wr h0 g.1.2.1.1 g.1.2.1.2.1 g.1.2.1.2.2.1 g.1.2.1.2.2.2.1 g.1.2.1.2.2.2.2.1 ν' Lm Sm h → Wp (g.1.1, Lm, Sm, h, g.1.2.1.2.2.2.2.2.1, g.1.2.1.2.2.2.2.2.2)
theorem ab_run_ok {step : Nat → List ck_I → List (Nat × ck_V) → List ck_V → ab_X → Nat × Nat × Nat → Option (List (Nat × ab_S))} {hs : List ab_Hd} {sp : List (Nat × Nat × Int)} {lv : List (Nat × ab_S)} {n0 : Nat} {ν0 : Nat → Int}
    (hstep : ∀ (n pc : Nat) (I : List ck_I) (L : List (Nat × ck_V)) (S : List ck_V) (X : ab_X) (nc mc ms : Nat) (xs : List (Nat × ab_S)) (ν : Nat → Int) (Lm : List (Nat × mm_v)) (Sm : List mm_v) (h : mm_h), step pc I L S X (nc, mc, ms) = some xs → n ≤ I.length → (∀ j, j < n0 → ν j = ν0 j) → ab_G Gh sh wr h0 I L S X nc ν Lm Sm h → (∀ x ∈ xs, ab_K Wp Gh sh wr h0 n ν x) → Wp (pc, Lm, Sm, h, mc, ms))
    (hlv : ∀ x ∈ lv, ∀ (ν : Nat → Int) (Lm : List (Nat × mm_v)) (Sm : List mm_v) (h : mm_h), (∀ j, j < n0 → ν j = ν0 j) → ab_G Gh sh wr h0 x.2.1 x.2.2.1 x.2.2.2.1 x.2.2.2.2.1 x.2.2.2.2.2.1 ν Lm Sm h → Wp (x.1, Lm, Sm, h, x.2.2.2.2.2.2.1, x.2.2.2.2.2.2.2)) :
    ∀ (fuel : Nat) (Γ : List (ab_Hd × Nat)) (kp pc : Nat) (σ : ab_S), ab_run step hs sp lv fuel Γ kp pc σ = true → ∀ (ν : Nat → Int) (Lm : List (Nat × mm_v)) (Sm : List mm_v) (h : mm_h), n0 ≤ kp → (∀ j, j < n0 → ν j = ν0 j) → (∀ g ∈ Γ, g.1.2.1.1.length ≤ kp ∧ ab_PG Wp Gh sh wr h0 n0 ν0 ν g) → ab_G Gh sh wr h0 σ.1 σ.2.1 σ.2.2.1 σ.2.2.2.1 σ.2.2.2.2.1 ν Lm Sm h → Wp (pc, Lm, Sm, h, σ.2.2.2.2.2.1, σ.2.2.2.2.2.2)
  | 0, _, _, _, _, hh => by simp [ab_run] at hh
  | fuel + 1, Γ, kp, pc, σ, hh => by
    intro ν Lm Sm h hn0 hν hΓ hG
    have ih := ab_run_ok (hs := hs) (sp := sp) hstep hlv fuel
    have next : ∀ {n : Nat} {ν1 : Nat → Int} {Γ' : List (ab_Hd × Nat)} {kp' : Nat} {x : Nat × ab_S}, n = kp' → n0 ≤ kp' → (∀ j, j < n0 → ν1 j = ν0 j) → (∀ g ∈ Γ', g.1.2.1.1.length ≤ kp' ∧ ab_PG Wp Gh sh wr h0 n0 ν0 ν1 g) → ab_run step hs sp lv fuel Γ' kp' x.1 x.2 = true → ab_K Wp Gh sh wr h0 n ν1 x := fun {n ν1 Γ' kp' x} e1 e2 e3 e4 e6 => by
      intro ν' Lm' Sm' h' hag hG'
      subst e1
      refine ih Γ' _ x.1 x.2 e6 ν' Lm' Sm' h' e2 (fun j hj => by rw [hag j (by omega)]; exact e3 j hj) (fun g hg => ?_) hG'
      obtain ⟨l1, νg, b1, b2⟩ := e4 g hg
      exact ⟨l1, νg, fun j hj => by rw [hag j (by omega)]; exact b1 j hj, b2⟩
    unfold ab_run at hh
    rw [Bool.and_eq_true] at hh
    obtain ⟨hkp0, hh⟩ := hh
    have hkp := of_decide_eq_true hkp0
    split at hh
    · rename_i y hy
      have hyp : y.1 = pc := by simpa using List.find?_some hy
      cases ht : ab_subS kp σ y.2 with
      | none => rw [ht] at hh; cases hh
      | some t =>
        obtain ⟨s1, s2, s3, s4, s5⟩ := ab_subS_ok ht hG
        rw [s4, s5, ← hyp]
        exact hlv y (List.mem_of_find?_eq_some hy) _ Lm Sm h (fun j hj => by rw [s2 j (by omega)]; exact hν j hj) s1
    split at hh
    · rename_i q hq
      simp only [Bool.and_eq_true] at hh
      obtain ⟨hA1, hB1⟩ := hh
      rcases Int.lt_or_le q.2.2 (ν q.2.1) with hc | hc
      · obtain ⟨J, j1, j2, j3⟩ := ck_cutLo_ok (s := q.2.1) (c := q.2.2 + 1) hG.gi (by omega)
        rw [j1] at hB1
        exact ih Γ kp pc (J, σ.2) hB1 ν Lm Sm h hn0 hν hΓ (hG.cut j3 j2)
      · obtain ⟨J, j1, j2, j3⟩ := ck_cutHi_ok (s := q.2.1) (c := q.2.2) hG.gi hc
        rw [j1] at hA1
        exact ih Γ kp pc (J, σ.2) hA1 ν Lm Sm h hn0 hν hΓ (hG.cut j3 j2)
    · split at hh
      · rename_i g hg
        have hgm := List.mem_of_find?_eq_some hg
        have hgp : g.1.1 = pc := by
          have := List.find?_some hg
          simp only [Bool.and_eq_true, beq_iff_eq] at this
          exact this.1
        split at hh
        · rename_i t ht
          obtain ⟨s1, s2, s3, s4, s5⟩ := ab_subS_ok ht hG
          obtain ⟨l1, νg, b1, b2, b3, b4, b5⟩ := hΓ g hgm
          have hm := ck_more_ok hh hG.gi
          rw [s4, s5, ← hgp]
          refine b5 (ck_evT ν t) Lm Sm h (fun j hj => ?_) ?_ s1
          · rw [s2 j hj]; exact b1 j (by omega)
          · have e1 := b1 g.1.2.2.1 b4
            rw [← e1]; exact hm
        · cases hh
      · split at hh
        · rename_i hd hhd
          have hpc : hd.1 = pc := by
            have := List.find?_some hhd
            simp only [Bool.and_eq_true, beq_iff_eq] at this
            exact this.1
          split at hh
          · rename_i t ht
            split at hh
            · rename_i xs hxs
              simp only [Bool.and_eq_true, decide_eq_true_eq] at hh
              obtain ⟨hdir, hall⟩ := hh
              obtain ⟨s1, s2, s3, s4, s5⟩ := ab_subS_ok ht hG
              rw [s4, s5]
              have hν1 : ∀ j, j < n0 → ck_evT ν t j = ν0 j := fun j hj => by rw [s2 j (by omega)]; exact hν j hj
              have hΓ1 : ∀ {ν1 : Nat → Int}, (∀ j, j < kp → ν1 j = ν j) → ∀ g ∈ Γ, g.1.2.1.1.length ≤ kp ∧ ab_PG Wp Gh sh wr h0 n0 ν0 ν1 g := fun {ν1} hag g hg => by
                obtain ⟨l1, νg, b1, b2⟩ := hΓ g hg
                exact ⟨l1, νg, fun j hj => by rw [hag j (by omega)]; exact b1 j hj, b2⟩
              by_cases h2 : hd.2.2.2 = 2
              · have hk : ∀ x ∈ xs, ab_K Wp Gh sh wr h0 kp (ck_evT ν t) x := fun x hx => by
                  have hr := List.all_eq_true.mp hall x hx
                  rw [if_pos h2] at hr
                  exact next rfl hn0 hν1 (hΓ1 s2) hr
                exact hstep kp pc _ _ _ _ _ _ _ xs _ Lm Sm h hxs s3 hν1 s1 hk
              · have key : ∀ (N : Nat) (ν1 : Nat → Int) (Lm1 : List (Nat × mm_v)) (Sm1 : List mm_v) (h1 : mm_h), (∀ j, j < kp → ν1 j = ν j) → (if hd.2.2.2 = 0 then (match hd.2.1.1[hd.2.2.1]? with
                    | some q => (q.2.1 - ν1 hd.2.2.1).toNat
                    | none => 0) else (match hd.2.1.1[hd.2.2.1]? with
                    | some q => (ν1 hd.2.2.1 - q.1).toNat
                    | none => 0)) < N → ab_G Gh sh wr h0 hd.2.1.1 hd.2.1.2.1 hd.2.1.2.2.1 hd.2.1.2.2.2.1 hd.2.1.2.2.2.2.1 ν1 Lm1 Sm1 h1 → Wp (pc, Lm1, Sm1, h1, hd.2.1.2.2.2.2.2.1, hd.2.1.2.2.2.2.2.2) := by
                  intro N
                  induction N with
                  | zero => intro ν1 Lm1 Sm1 h1 _ hN; omega
                  | succ N ihN =>
                    intro ν1 Lm1 Sm1 h1 hag hN hG1
                    have hν2 : ∀ j, j < n0 → ν1 j = ν0 j := fun j hj => by rw [hag j (by omega)]; exact hν j hj
                    have hk : ∀ x ∈ xs, ab_K Wp Gh sh wr h0 hd.2.1.1.length ν1 x := fun x hx => by
                      have hr := List.all_eq_true.mp hall x hx
                      rw [if_neg h2] at hr
                      simp only [Bool.and_eq_true, decide_eq_true_eq] at hr
                      obtain ⟨hμ, hr⟩ := hr
                      refine next (n := hd.2.1.1.length) rfl (by omega) hν2 (fun g hg => ?_) hr
                      · rcases List.mem_cons.mp hg with rfl | hg
                        · refine ⟨Nat.le_refl _, ν1, fun _ _ => rfl, hn0, hν2, hμ, fun ν3 Lm3 Sm3 h3 hag3 hm3 hG3 => ?_⟩
                          show Wp (hd.1, Lm3, Sm3, h3, hd.2.1.2.2.2.2.2.1, hd.2.1.2.2.2.2.2.2)
                          rw [hpc]
                          refine ihN ν3 Lm3 Sm3 h3 (fun j hj => by rw [hag3 j hj]; exact hag j hj) ?_ hG3
                          have hq1 := List.getElem?_eq_getElem hμ
                          obtain ⟨u1, u2, -, -⟩ := hG1.1 _ _ hq1
                          obtain ⟨u3, u4, -, -⟩ := hG3.1 _ _ hq1
                          rw [hq1] at hN ⊢
                          dsimp only at hN hm3 ⊢
                          by_cases hd0 : hd.2.2.2 = 0
                          · rw [if_pos hd0] at hN hm3 ⊢
                            exact ck_decU hm3 u4 hN
                          · rw [if_neg hd0] at hN hm3 ⊢
                            exact ck_decD hm3 u3 hN
                        · obtain ⟨l1, l2⟩ := hΓ1 hag g hg
                          exact ⟨by omega, l2⟩
                    exact hstep hd.2.1.1.length pc _ _ _ _ _ _ _ xs _ Lm1 Sm1 h1 hxs (Nat.le_refl _) hν2 hG1 hk
                exact key _ (ck_evT ν t) Lm Sm h s2 (Nat.lt_succ_self _) s1
            · cases hh
          · cases hh
        · split at hh
          · rename_i xs hxs
            refine hstep kp pc _ _ _ _ _ _ _ xs ν Lm Sm h hxs hkp hν hG (fun x hx => ?_)
            have hr := List.all_eq_true.mp hh x hx
            exact next rfl hn0 hν hΓ hr
          · cases hh
end ABT
