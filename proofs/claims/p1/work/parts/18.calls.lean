/-! THE TABLE RUN, 7: what a method is known to do, calls, returns -/
abbrev ck_O : Type := Option ck_F × List (Int × Int) × ck_D × Nat
/-- method, cells at its entry, its arguments, slots that it reads, slots that it may write, its ends; frames, words, cells, slots -/
abbrev ck_C : Type := Nat × Nat × List ck_F × ck_D × List (Nat × Nat) × List ck_O × Nat × Nat × Nat × Nat
/-- name, bytes, places of its frame, what it gives back, how many arguments its descriptor has -/
abbrev ck_MT : Type := MethodName × ByteArray × Nat × Option FieldType × Nat
def ck_av (st : Nat → Nat) (ws : va_W) : List ck_F → List Value → Prop
  | [], [] => True
  | F :: Fs, v :: vs => ck_fv st ws F v ∧ ck_av st ws Fs vs
  | _, _ => False
def ck_ints : List Value → List Int32
  | [] => []
  | .int x :: vs => x :: ck_ints vs
  | _ :: vs => ck_ints vs
def ck_iv : List (Int × Int) → List Int32 → Prop
  | [], [] => True
  | z :: zs, x :: xs => z.1 ≤ x.toInt ∧ x.toInt ≤ z.2 ∧ ck_iv zs xs
  | _, _ => False
def ck_amb (NM : List (String × Nat × MethodName × String)) (AO : List String) (SL : List (String × Nat × Nat)) (st : Nat → Nat) (U : State) : Prop := (∀ q ∈ NM, va_Nw (.methodLinkNest q.1 q.2.1 q.2.2.1 q.2.2.2) U) ∧ (∀ C ∈ AO, va_AO C U) ∧ ∀ q ∈ SL, ∃ tx, vk_R q.1 q.2.1 tx (st q.2.2) U
theorem ck_amb.warm {NM : List (String × Nat × MethodName × String)} {AO : List String} {SL : List (String × Nat × Nat)} {st : Nat → Nat} {s U : State} (h : ck_amb NM AO SL st s) (hW : s.WarmedH U.vm) : ck_amb NM AO SL st U :=
  ⟨fun q hq => va_Nw.warmM hW (h.1 q hq), fun C hC => va_AO.moved hW.alike (h.2.1 C hC), fun q hq => by obtain ⟨tx, h1⟩ := h.2.2 q hq; exact ⟨tx, h1.warm hW⟩⟩
theorem ck_amb.same {NM : List (String × Nat × MethodName × String)} {AO : List String} {SL : List (String × Nat × Nat)} {st : Nat → Nat} {u U : State} (h : ck_amb NM AO SL st u) (hv : U.vm = u.vm) : ck_amb NM AO SL st U :=
  ⟨fun q hq => va_Nw.same rfl hv.symm (h.1 q hq), fun C hC => va_AO.moved (by rw [hv]; exact Vm.Alike.refl _) (h.2.1 C hC), fun q hq => by obtain ⟨tx, h1⟩ := h.2.2 q hq; exact ⟨tx, h1.same hv⟩⟩
def ck_Pre (D : va_G) (cl : List vw_C) (NM : List (String × Nat × MethodName × String)) (AO : List String) (SL : List (String × Nat × Nat)) (st : Nat → Nat) (tys : List (ClassId × FieldType)) (ws : va_W) (sz : Nat) : State → Prop := fun U => U.heap.size = sz ∧ va_P D cl ws U.heap ∧ va_K D cl tys U ∧ va_D (fun _ => True) ws ∧ ck_amb NM AO SL st U
def ck_rv (st : Nat → Nat) (ws : va_W) : Option ck_F → Option Value → Prop
  | none, none => True
  | some F, some v => ck_fv st ws F v
  | _, _ => False
def ck_Post (D : va_G) (cl : List vw_C) (st : Nat → Nat) (sh : List ck_Sh) (c : ck_C) (ws : va_W) (vs : List Value) (A : Nat → Prop) : Array Value → State → Outcome → State → Prop := fun _ s0 oc t => (∃ o ∈ c.2.2.2.2.2.1, ∃ (r : Option Value) (ws' : va_W) (tys' : List (ClassId × FieldType)), oc = .returned r ∧ ck_rv st ws' o.1 r ∧ ck_iv o.2.1 (ck_ints vs) ∧ ck_gd st ws' o.2.2.1 ∧ ck_w sh tys' ws' o.2.2.2 ∧ ck_fr c.2.2.2.2.1 ws ws' ∧ va_P D cl ws' t.heap ∧ va_K D cl tys' t ∧ va_D A ws') ∧ va_F A s0 t
def ck_rm (c : ck_C) : Room := { frames := c.2.2.2.2.2.2.1, cells := c.2.2.2.2.2.2.2.2.1, slots := c.2.2.2.2.2.2.2.2.2, locals := c.2.2.2.2.2.2.2.1 }
def ck_Met (l : Launch) (Ts : List Cond) (mts : List ck_MT) (D : va_G) (cl : List vw_C) (NM : List (String × Nat × MethodName × String)) (AO : List String) (SL : List (String × Nat × Nat)) (st : Nat → Nat) (sh : List ck_Sh) (c : ck_C) : Prop := ∀ (M : ck_MT), mts[c.1]? = some M → ∀ (ws : va_W) (tys : List (ClassId × FieldType)) (vs : List Value) (sz : Nat), ck_w sh tys ws c.2.1 → ck_av st ws c.2.2.1 vs → ck_gd st ws c.2.2.2.1 → Met l M.1 (Cond.code M.1 M.2.1 M.2.2.1 M.2.2.2.1 :: Ts) (ck_rm c) (va_Pc vs (ck_Pre D cl NM AO SL st tys ws sz)) (ck_Post D cl st sh c ws vs (va_A ws sz)) c.2.2.2.2.2.2.2.2.1 c.2.2.2.2.2.2.2.2.2 (va_A ws sz)
theorem ck_blind {D : va_G} {cl : List vw_C} {NM : List (String × Nat × MethodName × String)} {AO : List String} {SL : List (String × Nat × Nat)} {st : Nat → Nat} {tys : List (ClassId × FieldType)} {ws : va_W} {sz : Nat} {vs : List Value} : FrameBlind (va_Pc vs (ck_Pre D cl NM AO SL st tys ws sz)) := fun a U g mk q => by
  obtain ⟨q0, q1, qP, qK, qD, qA⟩ := q
  exact ⟨q0, q1, qP, va_K.moved (u := U) (U := U.calling g mk a) (Vm.Alike.refl U.vm) qK, qD, qA.same rfl⟩
def ck_subF (G F : ck_F) : Bool := match G, F with
  | .inl a, .inl b => decide (b.1 ≤ a.1) && decide (a.2 ≤ b.2)
  | .inr a, .inr b => decide (a = b)
  | _, _ => false
theorem ck_subF_ok {st : Nat → Nat} {ws : va_W} {G F : ck_F} {v : Value} (h : ck_subF G F = true) (hv : ck_fv st ws G v) : ck_fv st ws F v := by
  unfold ck_subF at h
  split at h
  · simp only [Bool.and_eq_true, decide_eq_true_eq] at h
    obtain ⟨x, rfl, h1, h2⟩ := hv
    exact ⟨x, rfl, by omega, by omega⟩
  · have e := of_decide_eq_true h
    rw [← e]; exact hv
  · cases h
def ck_subD (X Y : ck_D) : Bool := Y.all fun x => match ck_look X x.1.1 x.1.2 with
  | some G => ck_subF G x.2
  | none => false
theorem ck_subD_ok {st : Nat → Nat} {ws : va_W} {X Y : ck_D} (h : ck_subD X Y = true) (hX : ck_gd st ws X) : ck_gd st ws Y := fun x hx => by
  have h1 := List.all_eq_true.mp h x hx
  split at h1
  · rename_i G hG
    obtain ⟨q, hq, hv⟩ := hX _ (ck_look_mem hG)
    exact ⟨q, hq, fun v hs => ck_subF_ok h1 (hv v hs)⟩
  · cases h1
section CKL
variable {p : Program} {l : Launch} {e : Env} {R : Room} {s : State} {m : MethodId} {args : Array Value} {below : List Frame} {meth : Method} {c : Code} {Q : State → Prop}
variable {cc : ByteArray} {D : va_G} {cl : List vw_C} {st : Nat → Nat} {sh : List ck_Sh} {A : Nat → Prop} {nL : Nat} {wr : List (Nat × Nat)} {ws0 : va_W}
variable {I I' : List ck_I} {L : List (Nat × ck_V)} {S S' : List ck_V} {X : ck_D} {nc mc ms n : Nat} {ν ν' : Nat → Int} {ws : va_W} {tys : List (ClassId × FieldType)} {H : Heap} {locs : List Loc} {ls : Array Slot} {vs vs' : List Value} {pc : Nat}
variable {Ts : List Cond} {AO : List String} {own : String} {NM : List (String × Nat × MethodName × String)} {SL : List (String × Nat × Nat)} {mts : List ck_MT}
/-- numbers among what was handed over: their forms -/
def ck_forms : List ck_V → List ck_L
  | [] => []
  | .inl f :: Vs => f :: ck_forms Vs
  | .inr _ :: Vs => ck_forms Vs
def ck_cutZ : List ck_I → List ck_L → List (Int × Int) → Option (List ck_I)
  | I, [], [] => some I
  | I, f :: fs, z :: zs => (ck_ge I f z.1).bind fun J => (ck_le J f z.2).bind fun K => ck_cutZ K fs zs
  | _, _, _ => none
theorem ck_cutZ_ok : ∀ {fs : List ck_L} {zs : List (Int × Int)} {xs : List Int32} {I : List ck_I}, ck_gi ν I → ck_iv zs xs → (∀ (j : Nat) (f : ck_L), fs[j]? = some f → ∃ x, xs[j]? = some x ∧ x.toInt = ck_ev ν f) → fs.length = xs.length → ∃ I', ck_cutZ I fs zs = some I' ∧ ck_gi ν I' ∧ I'.length = I.length
  | [], [], [], I, hi, _, _, _ => ⟨I, rfl, hi, rfl⟩
  | f :: fs, z :: zs, x :: xs, I, hi, hz, hf, hlen => by
    obtain ⟨y, h1, h2⟩ := hf 0 f rfl
    have e : x = y := by simpa using h1
    subst e
    obtain ⟨J, j1, j2, j3⟩ := ck_ge_ok (f := f) (c := z.1) hi (by rw [← h2]; exact hz.1)
    obtain ⟨K, k1, k2, k3⟩ := ck_le_ok (f := f) (c := z.2) j2 (by rw [← h2]; exact hz.2.1)
    obtain ⟨I', a1, a2, a3⟩ := ck_cutZ_ok (fs := fs) (zs := zs) (xs := xs) k2 hz.2.2 (fun j g hg => hf (j + 1) g (by simpa using hg)) (by simpa using hlen)
    exact ⟨I', by unfold ck_cutZ; rw [j1]; show (ck_le J f z.2).bind _ = _; rw [k1]; exact a1, a2, by rw [a3, k3, j3]⟩
  | [], z :: zs, [], _, _, hz, _, _ => hz.elim
  | _ :: _, _, [], _, _, _, _, hl => by simp at hl
  | [], _, _ :: _, _, _, _, _, hl => by simp at hl
  | _ :: _, [], _ :: _, _, _, hz, _, _ => hz.elim
def ck_okL (Ts : List Cond) (NM : List (String × Nat × MethodName × String)) (mts : List ck_MT) (own : String) (q : Nat × Nat × Nat) : Prop := ∃ M, mts[q.2.2]? = some M ∧ Cond.code M.1 M.2.1 M.2.2.1 M.2.2.2.1 ∈ Ts ∧ Cond.initialized M.1.cls ∈ Ts ∧ (M.1.cls ≠ "java/lang/invoke/MethodHandle" ∧ M.1.cls ≠ "java/lang/invoke/VarHandle") ∧ (parseMethodDescriptor M.1.desc).map (fun d => d.parameters.length) = some M.2.2.2.2 ∧ (match q.2.1 with
  | 0 => Cond.methodLink own q.1 M.1 ∈ Ts ∧ Cond.instanceMethod M.1 ∈ Ts ∧ Cond.selects M.1.cls M.1 M.1 ∈ Ts
  | 1 => Cond.methodLink own q.1 M.1 ∈ Ts ∧ Cond.static M.1 ∈ Ts
  | 2 => Cond.methodLink own q.1 M.1 ∈ Ts ∧ Cond.instanceMethod M.1 ∈ Ts ∧ M.1.name = "<init>" ∧ M.2.2.2.1 = none
  | 3 => ∃ h, (own, q.1, M.1, h) ∈ NM ∧ Cond.instanceMethod M.1 ∈ Ts ∧ Cond.selects M.1.cls M.1 M.1 ∈ Ts
  | 4 => ∃ h, (own, q.1, M.1, h) ∈ NM ∧ Cond.static M.1 ∈ Ts
  | 5 => ∃ h, (own, q.1, M.1, h) ∈ NM ∧ Cond.instanceMethod M.1 ∈ Ts ∧ M.1.name = "<init>" ∧ M.2.2.2.1 = none
  | _ => False)
def ck_avb (I : List ck_I) : List ck_V → List ck_F → Bool
  | [], [] => true
  | V :: Vs, F :: Fs => ck_subF (ck_toF I V) F && ck_avb I Vs Fs
  | _, _ => false
theorem ck_avb_ok : ∀ {Vs : List ck_V} {Fs : List ck_F} {vs : List Value}, ck_avb I Vs Fs = true → ck_gi ν I → ck_gs ν st ws I.length Vs vs → ck_av st ws Fs vs
  | [], [], [], _, _, _ => trivial
  | V :: Vs, F :: Fs, v :: vs, h, hi, hs => by
    simp only [ck_avb, Bool.and_eq_true] at h
    exact ⟨ck_subF_ok h.1 (ck_toF_ok hi hs.1), ck_avb_ok h.2 hi hs.2⟩
  | [], _ :: _, _, h, _, _ => by simp [ck_avb] at h
  | _ :: _, [], _, h, _, _ => by simp [ck_avb] at h
  | [], [], _ :: _, _, _, hs => hs.elim
  | _ :: _, _ :: _, [], _, _, hs => hs.elim
theorem ck_forms_ok : ∀ {Vs : List ck_V} {vs : List Value}, Vs.all ck_one = true → ck_gs ν st ws n Vs vs → (ck_forms Vs).length = (ck_ints vs).length ∧ ∀ (j : Nat) (f : ck_L), (ck_forms Vs)[j]? = some f → ∃ x, (ck_ints vs)[j]? = some x ∧ x.toInt = ck_ev ν f
  | [], [], _, _ => ⟨rfl, fun j f h => by simp [ck_forms] at h⟩
  | .inl f :: Vs, v :: vs, h1, hs => by
    obtain ⟨⟨w, x, rfl, e1⟩, h2⟩ := hs
    simp only [List.all_cons, Bool.and_eq_true] at h1
    obtain ⟨a1, a2⟩ := ck_forms_ok h1.2 h2
    refine ⟨by simp [ck_forms, ck_ints, a1], fun j g hg => ?_⟩
    match j, hg with
    | 0, hg =>
      have e : f = g := by simpa [ck_forms] using hg
      exact ⟨x, rfl, by rw [← e]; exact e1⟩
    | j + 1, hg =>
      obtain ⟨y, b1, b2⟩ := a2 j g (by simpa [ck_forms] using hg)
      exact ⟨y, by simpa [ck_ints] using b1, b2⟩
  | .inr q :: Vs, v :: vs, h1, hs => by
    obtain ⟨hq, h2⟩ := hs
    simp only [List.all_cons, Bool.and_eq_true] at h1
    obtain ⟨a1, a2⟩ := ck_forms_ok h1.2 h2
    rcases ck_refs h1.1 hq with rfl | ⟨a, rfl⟩ <;> exact ⟨a1, a2⟩
  | [], _ :: _, _, hs => hs.elim
  | _ :: _, [], _, hs => hs.elim
theorem ck_gs.split : ∀ {Vs S : List ck_V} {us : List Value}, ck_gs ν st ws n (Vs ++ S) us → ∃ as rest, us = as ++ rest ∧ ck_gs ν st ws n Vs as ∧ ck_gs ν st ws n S rest
  | [], S, us, h => ⟨[], us, rfl, trivial, h⟩
  | V :: Vs, S, [], h => h.elim
  | V :: Vs, S, v :: us, h => by
    obtain ⟨as, rest, h1, h2, h3⟩ := ck_gs.split h.2
    exact ⟨v :: as, rest, by rw [h1]; rfl, ⟨h.1, h2⟩, h3⟩
theorem ck_gs.app : ∀ {Vs S : List ck_V} {as bs : List Value}, ck_gs ν st ws n Vs as → ck_gs ν st ws n S bs → ck_gs ν st ws n (Vs ++ S) (as ++ bs)
  | [], S, [], bs, _, h => h
  | [], S, _ :: _, bs, h, _ => h.elim
  | _ :: _, S, [], bs, h, _ => h.elim
  | V :: Vs, S, v :: as, bs, h, h2 => ⟨h.1, ck_gs.app h.2 h2⟩
theorem ck_gs.rev : ∀ {Vs : List ck_V} {as : List Value}, ck_gs ν st ws n Vs as → ck_gs ν st ws n Vs.reverse as.reverse
  | [], [], h => h
  | [], _ :: _, h => h.elim
  | _ :: _, [], h => h.elim
  | V :: Vs, v :: as, h => by
    rw [List.reverse_cons, List.reverse_cons]
    exact ck_gs.app (ck_gs.rev h.2) ⟨h.1, trivial⟩
theorem ck_gs.len : ∀ {Vs : List ck_V} {as : List Value}, ck_gs ν st ws n Vs as → Vs.length = as.length
  | [], [], _ => rfl
  | [], _ :: _, h => h.elim
  | _ :: _, [], h => h.elim
  | V :: Vs, v :: as, h => by simp [ck_gs.len h.2]
theorem ck_words : ∀ {Vs : List ck_V} {as : List Value}, Vs.all ck_one = true → ck_gs ν st ws n Vs as → (as.map fun v => v.category).sum = Vs.length
  | [], [], _, _ => rfl
  | [], _ :: _, _, h => h.elim
  | _ :: _, [], _, h => h.elim
  | V :: Vs, v :: as, h1, h => by
    simp only [List.all_cons, Bool.and_eq_true] at h1
    simp only [List.map_cons, List.sum_cons, List.length_cons, ck_one_cat h1.1 h.1, ck_words h1.2 h.2]
    omega
/-- one end of a call, seen from the caller -/
def ck_after (co : ck_C) (pc : Nat) (fs : List ck_L) (I : List ck_I) (L : List (Nat × ck_V)) (S : List ck_V) (X : ck_D) (k : Nat × Nat × Nat) (o : ck_O) : Option (List (Nat × ck_S)) :=
  match ck_cutZ I fs o.2.1 with
  | none => some []
  | some J => match o.1 with
    | none => some [(pc + 3, (J, L, S, o.2.2.1 ++ X.filter (fun x => !(co.2.2.2.2.1.contains x.1) && !(co.2.2.2.2.1.contains (x.1.1, 0))), o.2.2.2, k.2.1 + co.2.2.2.2.2.2.2.2.1, k.2.2 + co.2.2.2.2.2.2.2.2.2))]
    | some F => match ck_pushF J F with
      | some r => some [(pc + 3, (r.1, L, r.2 :: S, o.2.2.1 ++ X.filter (fun x => !(co.2.2.2.2.1.contains x.1) && !(co.2.2.2.2.1.contains (x.1.1, 0))), o.2.2.2, k.2.1 + co.2.2.2.2.2.2.2.2.1, k.2.2 + co.2.2.2.2.2.2.2.2.2))]
      | none => none
def ck_ends (co : ck_C) (pc : Nat) (fs : List ck_L) (I : List ck_I) (L : List (Nat × ck_V)) (S : List ck_V) (X : ck_D) (k : Nat × Nat × Nat) : List ck_O → Option (List (Nat × ck_S))
  | [] => some []
  | o :: os => match ck_after co pc fs I L S X k o, ck_ends co pc fs I L S X k os with
    | some a, some b => some (a ++ b)
    | _, _ => none
theorem ck_ends_ok {co : ck_C} {fs : List ck_L} {k : Nat × Nat × Nat} {o : ck_O} : ∀ {os : List ck_O} {xs : List (Nat × ck_S)}, ck_ends co pc fs I L S X k os = some xs → o ∈ os → ∃ a, ck_after co pc fs I L S X k o = some a ∧ ∀ x ∈ a, x ∈ xs
  | [], _, _, ho => by cases ho
  | q :: os, xs, h, ho => by
    unfold ck_ends at h
    split at h
    · rename_i a b ha hb
      cases h
      rcases List.mem_cons.mp ho with rfl | ho
      · exact ⟨a, ha, fun x hx => List.mem_append_left _ hx⟩
      · obtain ⟨a', h1, h2⟩ := ck_ends_ok hb ho
        exact ⟨a', h1, fun x hx => List.mem_append_right _ (h2 x hx)⟩
    · cases h
/-- behind the call -/
theorem ck_behind {co : ck_C} {Vs : List ck_V} {as rest st0 : List Value} {xs : List (Nat × ck_S)} (hone : Vs.all ck_one = true) (hn : n ≤ I.length) (hVs : ck_gs ν st ws I.length Vs as) (hG : ck_G D cl st sh A s nL wr ws0 I L S X nc ν ws tys H locs ls rest) (hwr : ∀ x ∈ co.2.2.2.2.1, x ∈ wr) (hA : ∀ q, s.heap.size ≤ q → A q)
    (hr : va_Run p l e R s m args below meth c H locs mc ms co.2.2.2.2.2.2.2.2.1 co.2.2.2.2.2.2.2.2.2 (F0 m pc ls st0) rest (ck_Post D cl st sh co ws as (va_A ws H.size) as.toArray) (va_A ws H.size))
    (hx : ck_ends co pc (ck_forms Vs) I L S X (nc, mc, ms) co.2.2.2.2.2.1 = some xs) (K : ∀ x ∈ xs, ck_N p l e R s m args below meth c Q D cl st sh A nL wr ws0 n ν x) : W p l e R s m args below meth c H locs mc ms Q (F0 m pc ls st0) := by
  intro T hT Xs
  obtain ⟨v, s0, t, T', Ls, h0, X', hL, e1, e2, ⟨⟨o, ho, r, ws', tys', hv, hrv, hiv, hgd, hw, hfr, hP', hK', hD'⟩, hz, hk⟩, go⟩ := hr T hT Xs
  cases hv
  rw [h0] at hz hk
  obtain ⟨g1, g2, g3, g4, g5, g6, g7, g8, g9, g10⟩ := hG
  obtain ⟨f1, f2⟩ := ck_forms_ok hone hVs
  obtain ⟨J, j1, j2, j3⟩ := ck_cutZ_ok g1 hiv f2 f1
  have hAA : ∀ q, va_A ws H.size q → A q := fun q hq => by
    rcases hq with ⟨k, ee, h⟩ | h
    · exact g8.2 k _ h
    · exact hA q (Nat.le_trans g9.1 h)
  have hal : s.vm.Alike t.vm := by rw [← e2]; exact X'.warmed.alike
  have hS' : va_S A s.heap T'.heap (locs ++ Ls) := ⟨Nat.le_trans g9.1 (by rw [e1]; exact hz), fun q h1 h2 => by
    rw [e1, hk q (Nat.lt_of_lt_of_le h1 g9.1) (fun z => h2 (hAA q z))]; exact g9.2.1 q h1 h2, fun q hq => by
    rcases List.mem_append.mp hq with h | h
    · exact g9.2.2 q h
    · exact hAA _ (hL q h)⟩
  have hG' : ck_G D cl st sh A s nL wr ws0 J L S (o.2.2.1 ++ X.filter (fun x => !(co.2.2.2.2.1.contains x.1) && !(co.2.2.2.2.1.contains (x.1.1, 0)))) o.2.2.2 ν ws' tys' T'.heap (locs ++ Ls) ls rest :=
    ⟨j2, g2.on hfr.on (by omega) (fun _ _ => rfl), g3.on hfr.on (by omega) (fun _ _ => rfl), hgd.app (g4.fr hfr), hw, va_K.moved hal.symm hK', by rw [e1]; exact hP', hD'.weaken (fun _ q _ h => hAA q.1 h), hS', g10.trans (hfr.wide hwr)⟩
  obtain ⟨a, ha, hsub⟩ := ck_ends_ok hx ho
  unfold ck_after at ha
  rw [j1] at ha
  have hn2 : n ≤ J.length := by omega
  obtain ⟨t2, a1, b1⟩ : ∃ t2, Steps p.tables e below (T'.setTop { F0 m pc ls st0 with pc := pc + 3, stack := v.toList ++ rest }) t2 ∧ Q t2 := by
    split at ha
    · rename_i hq0
      cases hq0
    · rename_i J' hJ'
      cases hJ'
      split at ha
      · rename_i ho1
        cases ha
        rw [ho1] at hrv
        cases v with
        | none => exact K _ (hsub _ List.mem_cons_self) ν ws' tys' T'.heap (locs ++ Ls) ls rest (fun _ _ => rfl) hG' T' rfl X'
        | some v => exact hrv.elim
      · rename_i F ho1
        rw [ho1] at hrv
        split at ha
        · rename_i r hpu
          cases ha
          cases v with
          | none => exact hrv.elim
          | some v => exact ck_pushF_ok (pc := pc + 3) hG' hn2 hrv hpu (K _ (hsub _ List.mem_cons_self)) T' rfl X'
        · cases ha
  exact ⟨t2, go t2 a1, b1⟩
end CKL
