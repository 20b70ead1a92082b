/-! A RUN OF TABLES OVER THE PURE MACHINE, 4: fields, rows, what is made, the library -/
def ck_obj (sh : List ck_Sh) (nc i : Nat) : Option (Nat × Nat) := if i < nc then (match sh[i]? with
  | some (.inl o) => some o
  | _ => none) else none
def ck_row (sh : List ck_Sh) (nc i : Nat) : Option (FieldType × Nat) := if i < nc then (match sh[i]? with
  | some (.inr r) => some r
  | _ => none) else none
theorem ck_obj_ok {sh : List ck_Sh} {nc i : Nat} {o : Nat × Nat} {h : mm_h} (hq : ck_obj sh nc i = some o) (hs : ab_sh sh nc h) : i < h.1 ∧ h.2.1 i = .inl o := by
  unfold ck_obj at hq
  split at hq
  · rename_i hi
    have e := hs.2.2 i hi
    split at hq
    · rename_i h1
      cases hq
      exact ⟨Nat.lt_of_lt_of_le hi hs.1, (Option.some.inj (h1.symm.trans e)).symm⟩
    · cases hq
  · cases hq
theorem ck_row_ok {sh : List ck_Sh} {nc i : Nat} {r : FieldType × Nat} {h : mm_h} (hq : ck_row sh nc i = some r) (hs : ab_sh sh nc h) : i < h.1 ∧ h.2.1 i = .inr r := by
  unfold ck_row at hq
  split at hq
  · rename_i hi
    have e := hs.2.2 i hi
    split at hq
    · rename_i h1
      cases hq
      exact ⟨Nat.lt_of_lt_of_le hi hs.1, (Option.some.inj (h1.symm.trans e)).symm⟩
    · cases hq
  · cases hq
theorem mm_fd_ref {h : mm_h} {i k : Nat} {t : FieldType} (ht : mm_ft t = some true) : mm_fd h i k t = mm_A (h.2.2.2 i k) := by unfold mm_fd; rw [ht]
theorem mm_fd_int {h : mm_h} {i k : Nat} {t : FieldType} (ht : mm_ft t = some false) : mm_fd h i k t = mm_I (h.2.2.1 i k) := by unfold mm_fd; rw [ht]
/-- the type of a field of an object -/
def ab_ty (dt : List (List FieldType)) (c k : Nat) : Option FieldType := match dt[c]? with
  | some tl => tl[k]?
  | none => none
theorem ab_ty_ok {dt : List (List FieldType)} {c k : Nat} {t : FieldType} (h : ab_ty dt c k = some t) : ∃ tl, dt[c]? = some tl ∧ tl[k]? = some t := by
  unfold ab_ty at h
  split at h
  · rename_i tl htl; exact ⟨tl, htl, h⟩
  · cases h
/-- numbers that may stand in a field of that type -/
def ab_fits (I : List ck_I) (t : FieldType) (f : ck_L) : Bool := match t with
  | .int => true
  | .boolean => decide (0 ≤ (ck_rng I f).1) && decide ((ck_rng I f).2 ≤ 1)
  | _ => false
def ck_inR (I : List ck_I) (f : ck_L) (n : Nat) : Bool := decide (0 ≤ (ck_rng I f).1) && decide ((ck_rng I f).2 < (n : Int))
section ABM
variable {Gh : Nat → (Nat → Int32) → Prop} {sh : List ck_Sh} {wr : List (Nat × ab_P)} {h0 : mm_h} {I I' : List ck_I} {L : List (Nat × ck_V)} {S S' : List ck_V} {X : ab_X} {nc mc ms n : Nat} {ν ν' : Nat → Int} {Lm : List (Nat × mm_v)} {Sm Sm' : List mm_v} {h : mm_h} {pc nL : Nat} {Wp : mm_s → Prop}
variable {cl : List vw_C} {dt : List (List FieldType)} {fl : List ck_FL} {ini : Bool}
theorem ck_inR_ok {f : ck_L} {N : Nat} {x : Int32} (hr : ck_inR I f N = true) (hi : ck_gi ν I) (hx : x.toInt = ck_ev ν f) : 0 ≤ x.toInt ∧ x.toInt < (N : Int) := by
  simp only [ck_inR, Bool.and_eq_true, decide_eq_true_eq] at hr
  have rx := ck_rng32 hi hx
  omega
theorem ab_01 {x : Int32} (h0 : 0 ≤ x.toInt) (h1 : x.toInt ≤ 1) : x = 0 ∨ x = 1 := by
  rcases (show x.toInt = 0 ∨ x.toInt = 1 by omega) with q | q
  · exact Or.inl (Int32.toInt_inj.mp q)
  · exact Or.inr (Int32.toInt_inj.mp q)
theorem ab_fits_ok {t : FieldType} {f : ck_L} {x : Int32} (hf : ab_fits I t f = true) (hi : ck_gi ν I) (hx : x.toInt = ck_ev ν f) : mm_ft t = some false ∧ narrow t (.int x) = .int x ∧ fits t (.int x) = true := by
  unfold ab_fits at hf
  split at hf
  · exact ⟨rfl, rfl, rfl⟩
  · simp only [Bool.and_eq_true, decide_eq_true_eq] at hf
    have rx := ck_rng32 hi hx
    rcases ab_01 (x := x) (by omega) (by omega) with rfl | rfl <;> exact ⟨rfl, rfl, rfl⟩
  · cases hf
def ab_f (fl : List ck_FL) (dt : List (List FieldType)) (sh : List ck_Sh) (wr : List (Nat × ab_P)) (ini : Bool) (pc : Nat) (i : Instr × Nat) (I : List ck_I) (L : List (Nat × ck_V)) (S : List ck_V) (X : ab_X) (k : Nat × Nat × Nat) : Option (List (Nat × ab_S)) := match i, S with
  | (.getfield x, 3), .inr (0, i) :: S => match ck_fld fl x, ck_obj sh k.1 i with
    | some q, some o => if o.1 = q.2.1 ∧ q.2.2.1 < 65536 then (match ab_ty dt q.2.1 q.2.2.1 with
      | some t => (match mm_ft t with
        | some true => (match ck_kd X.1 I i (ck_k q.2.2.1) with
          | some u => some [(pc + 3, (I, L, .inr u :: S, X, k))]
          | none => none)
        | some false => (match ab_rd I X i (ck_k q.2.2.1) with
          | some r => some [(pc + 3, (r.1, L, .inl r.2.1 :: S, r.2.2, k))]
          | none => none)
        | none => none)
      | none => none) else none
    | _, _ => none
  | (.putfield x, 3), .inl f :: .inr (0, i) :: S => match ck_fld fl x, ck_obj sh k.1 i with
    | some q, some o => if o.1 = q.2.1 ∧ q.2.2.1 < 65536 ∧ ab_ty dt q.2.1 q.2.2.1 = some q.2.2.2.1 ∧ ab_fits I q.2.2.2.1 f = true ∧ ab_allow wr I i (ck_k q.2.2.1) = true ∧ (q.2.2.2.2 = true → ini = true) then some [(pc + 3, (I, L, S, (ab_wrD I X.1 i (ck_k q.2.2.1) (.inl (ck_rng I f)), ((i, ck_k q.2.2.1), f) :: ab_wrE I X.2 i (ck_k q.2.2.1)), k))] else none
    | _, _ => none
  | (.putfield x, 3), .inr u :: .inr (0, i) :: S => match ck_fld fl x, ck_obj sh k.1 i with
    | some q, some o => if o.1 = q.2.1 ∧ q.2.2.1 < 65536 ∧ ab_ty dt q.2.1 q.2.2.1 = some q.2.2.2.1 ∧ mm_ft q.2.2.2.1 = some true ∧ ck_one (.inr u) = true ∧ u.1 ≠ 2 ∧ ab_allow wr I i (ck_k q.2.2.1) = true ∧ (q.2.2.2.2 = true → ini = true) ∧ (o.2 ≠ 2 ∨ ck_kd X.1 I i (ck_k q.2.2.1) = some (1, 0)) then some [(pc + 3, (I, L, S, (ab_wrD I X.1 i (ck_k q.2.2.1) (.inr u), X.2), k))] else none
    | _, _ => none
  | _, _ => none
theorem ab_kidx (k : Nat) : (k : Int) = ck_ev ν (ck_k k) := by simp [ck_ev, ck_k]
theorem ab_ref {u : Nat × Nat} {v : mm_v} (ho : ck_one (.inr u) = true) (h2 : u.1 ≠ 2) (hv : ab_kv h u v) : ∃ r, v = mm_A r := by
  obtain ⟨t, i⟩ := u
  match t, ho, h2, hv with
  | 0, _, _, hv => exact ⟨_, hv⟩
  | 1, _, _, hv => exact ⟨_, hv⟩
  | 2, _, h2, _ => exact absurd rfl h2
  | 3, _, _, hv =>
    rcases hv with e | ⟨j, e, -⟩
    · exact ⟨_, e⟩
    · exact ⟨_, e⟩
  | 4, _, _, hv => obtain ⟨j, e, -⟩ := hv; exact ⟨_, e⟩
  | 5, _, _, hv => obtain ⟨j, n, e, -⟩ := hv; exact ⟨_, e⟩
  | _ + 6, ho, _, _ => cases ho
theorem ab_le_sr {i k : Nat} {r : Option Nat} {o : Nat × Nat} (hs : h.2.1 i = .inl o) (hc : o.2 ≠ 2 ∨ h.2.2.2 i k = none) : ab_le h (mm_sr h i k r) := by
  refine ⟨Nat.le_refl _, fun _ _ => rfl, fun j c hj hsj q1 q2 => ?_, fun _ _ _ _ => rfl⟩
  by_cases hji : j = i
  · subst hji
    rcases hc with z | z
    · rw [hs] at hsj
      exact absurd (congrArg Prod.snd (Sum.inl.inj hsj)) z
    · have key : ∀ w, ab_ir h (mm_A (h.2.2.2 j w)) → (mm_sr h j k r).2.2.2 j w = h.2.2.2 j w := fun w hw => by
        refine if_neg (fun y => ?_)
        rw [y.2, z] at hw
        obtain ⟨a, b, e, -⟩ := hw
        cases e
      exact ⟨key 0 q1, key 1 q2⟩
  · exact ⟨if_neg (fun y => hji y.1), if_neg (fun y => hji y.1)⟩
theorem ab_f_ok {i : Instr × Nat} {xs : List (Nat × ab_S)} (hh : ab_f fl dt sh wr ini pc i I L S X (nc, mc, ms) = some xs) (hn : n ≤ I.length) (hG : ab_G Gh sh wr h0 I L S X nc ν Lm Sm h) (K : ∀ x ∈ xs, ab_K Wp Gh sh wr h0 n ν x) : mm_f fl dt ini pc i Lm Sm h (mc, ms) Wp := by
  have hsh := hG.2.2.2.2.2.1
  unfold ab_f at hh
  split at hh
  · split at hh
    · rename_i q o hq ho
      split at hh
      · rename_i hc
        split at hh
        · rename_i t ht
          obtain ⟨v, vs', rfl, h1, h2⟩ := hG.gs.pop
          have ev : v = mm_A (some _) := h1
          subst ev
          obtain ⟨g1, g2⟩ := ck_obj_ok ho hsh
          obtain ⟨tl, t1, t2⟩ := ab_ty_ok ht
          have hsi := g2
          rw [show o = (q.2.1, o.2) by rw [← hc.1]] at hsi
          split at hh
          · rename_i hft
            split at hh
            · rename_i u hu
              cases hh
              obtain ⟨u1, u2⟩ := ck_kd_ok hu (hG.stk h2) (ab_kidx _) ⟨by omega, by omega⟩
              refine ⟨q, o.2, tl, t, hq, g1, hsi, t1, t2, ?_⟩
              rw [mm_fd_ref hft]
              exact ab_pushV (V := .inr u) (hG.stk h2) u2 (K _ List.mem_cons_self)
            · cases hh
          · rename_i hft
            split at hh
            · rename_i r hr
              cases hh
              refine ⟨q, o.2, tl, t, hq, g1, hsi, t1, t2, ?_⟩
              rw [mm_fd_int hft]
              exact ab_rd_ok hr (hG.stk h2) hn (Or.inl rfl) (ab_kidx q.2.2.1) ⟨by omega, by omega⟩ (K _ List.mem_cons_self)
            · cases hh
          · cases hh
        · cases hh
      · cases hh
    · cases hh
  · split at hh
    · rename_i q o hq ho
      split at hh
      · rename_i hc
        obtain ⟨c1, c0, c2, c3, c4, c5⟩ := hc
        cases hh
        obtain ⟨v, vs', rfl, ⟨wf, y, rfl, ey⟩, h2⟩ := hG.gs.pop
        obtain ⟨v, vs', rfl, h3, h4⟩ := h2.pop
        have ev : v = mm_A (some _) := h3
        subst ev
        obtain ⟨g1, g2⟩ := ck_obj_ok ho hsh
        obtain ⟨tl, t1, t2⟩ := ab_ty_ok c2
        obtain ⟨f1, f2, f3⟩ := ab_fits_ok c3 hG.gi ey
        exact ⟨q, o.2, tl, hq, g1, by rw [g2, ← c1], t1, t2, f1, f2, f3, c5, K _ List.mem_cons_self ν Lm _ _ (fun _ _ => rfl) (ab_wri (x := ((q.2.2.1 : Nat) : Int)) (hG.stk h4) (Or.inl rfl) (ab_kidx q.2.2.1) ⟨by omega, by omega⟩ c4 wf ey)⟩
      · cases hh
    · cases hh
  · split at hh
    · rename_i q o hq ho
      split at hh
      · rename_i hc
        obtain ⟨c1, c0, c2, c3, c6, c7, c4, c5, c8⟩ := hc
        cases hh
        obtain ⟨v, vs', rfl, hv, h2⟩ := hG.gs.pop
        obtain ⟨v2, vs', rfl, h3, h4⟩ := h2.pop
        have ev : v2 = mm_A (some _) := h3
        subst ev
        obtain ⟨r, rfl⟩ := ab_ref c6 c7 hv
        obtain ⟨g1, g2⟩ := ck_obj_ok ho hsh
        obtain ⟨tl, t1, t2⟩ := ab_ty_ok c2
        have hle := ab_le_sr (k := q.2.2.1) (r := r) g2 (c8.imp id (fun z => by
          have e := (ck_kd_ok (x := (q.2.2.1 : Int)) z hG (ab_kidx _) ⟨by omega, by omega⟩).2
          have e2 := Sum.inl.inj (Sum.inr.inj (Sum.inr.inj (show mm_A _ = mm_A none from e)))
          simpa using e2))
        exact ⟨q, o.2, tl, hq, g1, by rw [g2, ← c1], t1, t2, c3, c5, K _ List.mem_cons_self ν Lm _ _ (fun _ _ => rfl) (ab_wrr (x := ((q.2.2.1 : Nat) : Int)) (hG.stk h4) (ab_kidx q.2.2.1) ⟨by omega, by omega⟩ c4 c6 hv hle)⟩
      · cases hh
    · cases hh
  · cases hh
/-- rows -/
def ab_ld (sh : List ck_Sh) (pc : Nat) (i : Instr × Nat) (I : List ck_I) (L : List (Nat × ck_V)) (S : List ck_V) (X : ab_X) (k : Nat × Nat × Nat) : Option (List (Nat × ab_S)) := match i, S with
  | (.iaload, 1), .inl f :: .inr (0, i) :: S => match ck_row sh k.1 i, ab_rd I X i (ck_norm I f) with
    | some (.int, N), some r => if ck_inR I f N = true then some [(pc + 1, (r.1, L, .inl r.2.1 :: S, r.2.2, k))] else none
    | _, _ => none
  | (.baload, 1), .inl f :: .inr (0, i) :: S => match ck_row sh k.1 i, ab_rd I X i (ck_norm I f) with
    | some (.byte, N), some r => if ck_inR I f N = true then some [(pc + 1, (r.1, L, .inl r.2.1 :: S, r.2.2, k))] else none
    | some (.boolean, N), some r => if ck_inR I f N = true then some [(pc + 1, (r.1, L, .inl r.2.1 :: S, r.2.2, k))] else none
    | _, _ => none
  | (.aaload, 1), .inl f :: .inr (0, i) :: S => match ck_row sh k.1 i, ck_kd X.1 I i (ck_norm I f) with
    | some (.object _, N), some u => if ck_inR I f N = true then some [(pc + 1, (I, L, .inr u :: S, X, k))] else none
    | _, _ => none
  | (.arraylength, 1), .inr (0, i) :: S => match ck_row sh k.1 i with
    | some r => if r.2 < 2147483648 then some [(pc + 1, (I, L, .inl (ck_k r.2) :: S, X, k))] else none
    | none => none
  | _, _ => none
theorem ab_ld_ok {i : Instr × Nat} {xs : List (Nat × ab_S)} (hh : ab_ld sh pc i I L S X (nc, mc, ms) = some xs) (hn : n ≤ I.length) (hG : ab_G Gh sh wr h0 I L S X nc ν Lm Sm h) (K : ∀ x ∈ xs, ab_K Wp Gh sh wr h0 n ν x) : mm_ld pc i Lm Sm h (mc, ms) Wp := by
  have hsh := hG.2.2.2.2.2.1
  unfold ab_ld at hh
  split at hh
  · split at hh
    · rename_i N r hr hrd
      split at hh
      · rename_i hin
        cases hh
        obtain ⟨v, vs', rfl, ⟨wf, x, rfl, ex⟩, h2⟩ := hG.gs.pop
        obtain ⟨v, vs', rfl, h3, h4⟩ := h2.pop
        have ev : v = mm_A (some _) := h3
        subst ev
        obtain ⟨g1, g2⟩ := ck_row_ok hr hsh
        obtain ⟨b1, b2⟩ := ck_inR_ok hin hG.gi ex
        have nm := ck_norm_ok hG.gi wf ex
        have i32 := ck_i32 x
        exact ⟨g1, N, g2, b1, b2, ab_rd_ok hrd (hG.stk h4) hn nm.1 nm.2 ⟨b1, by omega⟩ (K _ List.mem_cons_self)⟩
      · cases hh
    · cases hh
  · split at hh
    · rename_i N r hr hrd
      split at hh
      · rename_i hin
        cases hh
        obtain ⟨v, vs', rfl, ⟨wf, x, rfl, ex⟩, h2⟩ := hG.gs.pop
        obtain ⟨v, vs', rfl, h3, h4⟩ := h2.pop
        have ev : v = mm_A (some _) := h3
        subst ev
        obtain ⟨g1, g2⟩ := ck_row_ok hr hsh
        obtain ⟨b1, b2⟩ := ck_inR_ok hin hG.gi ex
        have nm := ck_norm_ok hG.gi wf ex
        have i32 := ck_i32 x
        exact ⟨g1, N, Or.inl g2, b1, b2, ab_rd_ok hrd (hG.stk h4) hn nm.1 nm.2 ⟨b1, by omega⟩ (K _ List.mem_cons_self)⟩
      · cases hh
    · rename_i N r hr hrd
      split at hh
      · rename_i hin
        cases hh
        obtain ⟨v, vs', rfl, ⟨wf, x, rfl, ex⟩, h2⟩ := hG.gs.pop
        obtain ⟨v, vs', rfl, h3, h4⟩ := h2.pop
        have ev : v = mm_A (some _) := h3
        subst ev
        obtain ⟨g1, g2⟩ := ck_row_ok hr hsh
        obtain ⟨b1, b2⟩ := ck_inR_ok hin hG.gi ex
        have nm := ck_norm_ok hG.gi wf ex
        have i32 := ck_i32 x
        exact ⟨g1, N, Or.inr g2, b1, b2, ab_rd_ok hrd (hG.stk h4) hn nm.1 nm.2 ⟨b1, by omega⟩ (K _ List.mem_cons_self)⟩
      · cases hh
    · cases hh
  · split at hh
    · rename_i C N u hr hrd
      split at hh
      · rename_i hin
        cases hh
        obtain ⟨v, vs', rfl, ⟨wf, x, rfl, ex⟩, h2⟩ := hG.gs.pop
        obtain ⟨v, vs', rfl, h3, h4⟩ := h2.pop
        have ev : v = mm_A (some _) := h3
        subst ev
        obtain ⟨g1, g2⟩ := ck_row_ok hr hsh
        obtain ⟨b1, b2⟩ := ck_inR_ok hin hG.gi ex
        have nm := ck_norm_ok hG.gi wf ex
        have i32 := ck_i32 x
        obtain ⟨u1, u2⟩ := ck_kd_ok hrd (hG.stk h4) nm.2 ⟨b1, by omega⟩
        exact ⟨g1, C, N, g2, b1, b2, ab_pushV (V := .inr u) (hG.stk h4) u2 (K _ List.mem_cons_self)⟩
      · cases hh
    · cases hh
  · split at hh
    · rename_i r hr
      split at hh
      · rename_i hlt
        cases hh
        obtain ⟨v, vs', rfl, h3, h4⟩ := hG.gs.pop
        have ev : v = mm_A (some _) := h3
        subst ev
        obtain ⟨g1, g2⟩ := ck_row_ok hr hsh
        refine ⟨g1, r, g2, ab_pushv (hG.stk h4) hn (f := ck_k r.2) ?_ (K _ List.mem_cons_self)⟩
        have e1 : (Int32.ofNat r.2).toInt = (r.2 : Int) := nI_toInt (n := r.2) (by omega)
        rw [e1]
        exact ck_k_ok hG.gi _
      · cases hh
    · cases hh
  · cases hh
def ab_st (cl : List vw_C) (sh : List ck_Sh) (wr : List (Nat × ab_P)) (pc : Nat) (i : Instr × Nat) (I : List ck_I) (L : List (Nat × ck_V)) (S : List ck_V) (X : ab_X) (k : Nat × Nat × Nat) : Option (List (Nat × ab_S)) := match i, S with
  | (.iastore, 1), .inl g :: .inl f :: .inr (0, i) :: S => match ck_row sh k.1 i with
    | some (.int, N) => if ck_inR I f N = true ∧ ab_allow wr I i (ck_norm I f) = true then some [(pc + 1, (I, L, S, (ab_wrD I X.1 i (ck_norm I f) (.inl (ck_rng I g)), ((i, ck_norm I f), g) :: ab_wrE I X.2 i (ck_norm I f)), k))] else none
    | _ => none
  | (.bastore, 1), .inl g :: .inl f :: .inr (0, i) :: S => match ck_row sh k.1 i with
    | some (.byte, N) => if ck_inR I f N = true ∧ ab_allow wr I i (ck_norm I f) = true then some [(pc + 1, (I, L, S, (ab_wrD I X.1 i (ck_norm I f) (.inl (if -128 ≤ (ck_rng I g).1 ∧ (ck_rng I g).2 ≤ 127 then ck_rng I g else (-128, 127))), ab_wrE I X.2 i (ck_norm I f)), k))] else none
    | some (.boolean, N) => if ck_inR I f N = true ∧ ab_allow wr I i (ck_norm I f) = true ∧ 0 ≤ (ck_rng I g).1 ∧ (ck_rng I g).2 ≤ 1 then some [(pc + 1, (I, L, S, (ab_wrD I X.1 i (ck_norm I f) (.inl (ck_rng I g)), ((i, ck_norm I f), g) :: ab_wrE I X.2 i (ck_norm I f)), k))] else none
    | _ => none
  | (.aastore, 1), .inr (1, z) :: .inl f :: .inr (0, i) :: S => match ck_row sh k.1 i with
    | some (.object _, N) => if ck_inR I f N = true ∧ ab_allow wr I i (ck_norm I f) = true then some [(pc + 1, (I, L, S, (ab_wrD I X.1 i (ck_norm I f) (.inr (1, z)), X.2), k))] else none
    | _ => none
  | (.aastore, 1), .inr (0, z) :: .inl f :: .inr (0, i) :: S => match ck_row sh k.1 i, ck_obj sh k.1 z with
    | some (.object C, N), some o => match cl[o.1]? with
      | some r => if r.1 = C ∧ ck_inR I f N = true ∧ ab_allow wr I i (ck_norm I f) = true then some [(pc + 1, (I, L, S, (ab_wrD I X.1 i (ck_norm I f) (.inr (0, z)), X.2), k))] else none
      | none => none
    | _, _ => none
  | (.aastore, 1), .inr (3, z) :: .inl f :: .inr (0, i) :: S => match ck_row sh k.1 i with
    | some (.object C, N) => match cl[z]? with
      | some r => if r.1 = C ∧ ck_inR I f N = true ∧ ab_allow wr I i (ck_norm I f) = true then some [(pc + 1, (I, L, S, (ab_wrD I X.1 i (ck_norm I f) (.inr (3, z)), X.2), k))] else none
      | none => none
    | _ => none
  | _, _ => none
theorem ab_le_row {i k : Nat} {r : Option Nat} {t : FieldType × Nat} (hs : h.2.1 i = .inr t) : ab_le h (mm_sr h i k r) := by
  refine ⟨Nat.le_refl _, fun _ _ => rfl, fun j c hj hsj q1 q2 => ?_, fun _ _ _ _ => rfl⟩
  have hji : j ≠ i := fun z => by rw [z, hs] at hsj; cases hsj
  exact ⟨if_neg (fun y => hji y.1), if_neg (fun y => hji y.1)⟩
theorem ab_st_ok {i : Instr × Nat} {xs : List (Nat × ab_S)} (hh : ab_st cl sh wr pc i I L S X (nc, mc, ms) = some xs) (hG : ab_G Gh sh wr h0 I L S X nc ν Lm Sm h) (K : ∀ x ∈ xs, ab_K Wp Gh sh wr h0 n ν x) : mm_sw cl pc i Lm Sm h (mc, ms) Wp := by
  have hsh := hG.2.2.2.2.2.1
  unfold ab_st at hh
  split at hh
  · split at hh
    · rename_i N hr
      split at hh
      · rename_i hc
        cases hh
        obtain ⟨v, vs', rfl, ⟨wg, y, rfl, ey⟩, h1⟩ := hG.gs.pop
        obtain ⟨v, vs', rfl, ⟨wf, x, rfl, ex⟩, h2⟩ := h1.pop
        obtain ⟨v, vs', rfl, h3, h4⟩ := h2.pop
        have ev : v = mm_A (some _) := h3
        subst ev
        obtain ⟨g1, g2⟩ := ck_row_ok hr hsh
        obtain ⟨b1, b2⟩ := ck_inR_ok hc.1 hG.gi ex
        have nm := ck_norm_ok hG.gi wf ex
        have i32 := ck_i32 x
        exact ⟨g1, N, g2, b1, b2, K _ List.mem_cons_self ν Lm _ _ (fun _ _ => rfl) (ab_wri (hG.stk h4) nm.1 nm.2 ⟨b1, by omega⟩ hc.2 wg ey)⟩
      · cases hh
    · cases hh
  · split at hh
    · rename_i N hr
      split at hh
      · rename_i hc
        cases hh
        obtain ⟨v, vs', rfl, ⟨wg, y, rfl, ey⟩, h1⟩ := hG.gs.pop
        obtain ⟨v, vs', rfl, ⟨wf, x, rfl, ex⟩, h2⟩ := h1.pop
        obtain ⟨v, vs', rfl, h3, h4⟩ := h2.pop
        have ev : v = mm_A (some _) := h3
        subst ev
        obtain ⟨g1, g2⟩ := ck_row_ok hr hsh
        obtain ⟨b1, b2⟩ := ck_inR_ok hc.1 hG.gi ex
        have nm := ck_norm_ok hG.gi wf ex
        have i32 := ck_i32 x
        have ry := ck_rng32 hG.gi ey
        refine ⟨g1, .byte, N, Or.inl rfl, g2, b1, b2, K _ List.mem_cons_self ν Lm _ _ (fun _ _ => rfl) (ab_wrb (hG.stk h4) nm.2 ⟨b1, by omega⟩ hc.2 ?_)⟩
        rw [vp_nar_byte]
        split
        · rename_i hb
          rw [ck_byteI (by omega) (by omega)]
          exact ry
        · exact ck_byteR y
      · cases hh
    · rename_i N hr
      split at hh
      · rename_i hc
        obtain ⟨c1, c2, c3, c4⟩ := hc
        cases hh
        obtain ⟨v, vs', rfl, ⟨wg, y, rfl, ey⟩, h1⟩ := hG.gs.pop
        obtain ⟨v, vs', rfl, ⟨wf, x, rfl, ex⟩, h2⟩ := h1.pop
        obtain ⟨v, vs', rfl, h3, h4⟩ := h2.pop
        have ev : v = mm_A (some _) := h3
        subst ev
        obtain ⟨g1, g2⟩ := ck_row_ok hr hsh
        obtain ⟨b1, b2⟩ := ck_inR_ok c1 hG.gi ex
        have nm := ck_norm_ok hG.gi wf ex
        have i32 := ck_i32 x
        have ry := ck_rng32 hG.gi ey
        have en : vp_nar .boolean y = y := by rcases ab_01 (x := y) (by omega) (by omega) with rfl | rfl <;> rfl
        refine ⟨g1, .boolean, N, Or.inr rfl, g2, b1, b2, ?_⟩
        rw [en]
        exact K _ List.mem_cons_self ν Lm _ _ (fun _ _ => rfl) (ab_wri (hG.stk h4) nm.1 nm.2 ⟨b1, by omega⟩ c2 wg ey)
      · cases hh
    · cases hh
  · split at hh
    · rename_i C N hr
      split at hh
      · rename_i hc
        cases hh
        obtain ⟨v, vs', rfl, hv, h1⟩ := hG.gs.pop
        have ev : v = mm_A none := hv
        subst ev
        obtain ⟨v, vs', rfl, ⟨wf, x, rfl, ex⟩, h2⟩ := h1.pop
        obtain ⟨v, vs', rfl, h3, h4⟩ := h2.pop
        have ev : v = mm_A (some _) := h3
        subst ev
        obtain ⟨g1, g2⟩ := ck_row_ok hr hsh
        obtain ⟨b1, b2⟩ := ck_inR_ok hc.1 hG.gi ex
        have nm := ck_norm_ok hG.gi wf ex
        have i32 := ck_i32 x
        exact ⟨g1, C, N, g2, b1, b2, K _ List.mem_cons_self ν Lm _ _ (fun _ _ => rfl) (ab_wrr (q := (1, _)) (hG.stk h4) nm.2 ⟨b1, by omega⟩ hc.2 rfl rfl (ab_le_row g2))⟩
      · cases hh
    · cases hh
  · split at hh
    · rename_i C N o hr ho
      split at hh
      · rename_i r hcl
        split at hh
        · rename_i hc
          obtain ⟨c0, c1, c2⟩ := hc
          cases hh
          obtain ⟨v, vs', rfl, hv, h1⟩ := hG.gs.pop
          have ev : v = mm_A (some _) := hv
          subst ev
          obtain ⟨v, vs', rfl, ⟨wf, x, rfl, ex⟩, h2⟩ := h1.pop
          obtain ⟨v, vs', rfl, h3, h4⟩ := h2.pop
          have ev : v = mm_A (some _) := h3
          subst ev
          obtain ⟨g1, g2⟩ := ck_row_ok hr hsh
          obtain ⟨k1, k2⟩ := ck_obj_ok ho hsh
          obtain ⟨b1, b2⟩ := ck_inR_ok c1 hG.gi ex
          have nm := ck_norm_ok hG.gi wf ex
          have i32 := ck_i32 x
          exact ⟨g1, k1, r, o, N, by rw [g2, c0], k2, hcl, b1, b2, K _ List.mem_cons_self ν Lm _ _ (fun _ _ => rfl) (ab_wrr (q := (0, _)) (hG.stk h4) nm.2 ⟨b1, by omega⟩ c2 rfl rfl (ab_le_row g2))⟩
        · cases hh
      · cases hh
    · cases hh
  · split at hh
    · rename_i C N hr
      split at hh
      · rename_i r hcl
        split at hh
        · rename_i hc
          obtain ⟨c0, c1, c2⟩ := hc
          cases hh
          obtain ⟨v, vs', rfl, hv, h1⟩ := hG.gs.pop
          obtain ⟨v2, vs', rfl, ⟨wf, x, rfl, ex⟩, h2⟩ := h1.pop
          obtain ⟨v3, vs', rfl, h3, h4⟩ := h2.pop
          have ev : v3 = mm_A (some _) := h3
          subst ev
          obtain ⟨g1, g2⟩ := ck_row_ok hr hsh
          obtain ⟨b1, b2⟩ := ck_inR_ok c1 hG.gi ex
          have nm := ck_norm_ok hG.gi wf ex
          have i32 := ck_i32 x
          have hv0 := hv
          rcases hv with e | ⟨j, e, t1, t2, t3, t4⟩
          · subst e
            exact ⟨g1, C, N, g2, b1, b2, K _ List.mem_cons_self ν Lm _ _ (fun _ _ => rfl) (ab_wrr (q := (3, _)) (hG.stk h4) nm.2 ⟨b1, by omega⟩ c2 rfl (Or.inl rfl) (ab_le_row g2))⟩
          · subst e
            exact ⟨g1, t1, r, _, N, by rw [g2, c0], t2, hcl, b1, b2, K _ List.mem_cons_self ν Lm _ _ (fun _ _ => rfl) (ab_wrr (q := (3, _)) (hG.stk h4) nm.2 ⟨b1, by omega⟩ c2 rfl hv0 (ab_le_row g2))⟩
        · cases hh
      · cases hh
    · cases hh
  · cases hh
end ABM
