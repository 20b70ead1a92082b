/-! THE PURE MACHINE, 5: calls, returns, the run and that it is sound -/
/-- name, bytes, places of its frame, what it gives back, how many arguments its descriptor has -/
abbrev ck_MT : Type := MethodName × ByteArray × Nat × Option FieldType × Nat
/-- what a method is known to do: its number; frames, words, cells, slots; what it wants, what it does -/
abbrev mm_C : Type := Nat × (Nat × Nat × Nat × Nat) × (List mm_v → mm_h → Prop) × (List mm_v → mm_h → Option mm_v → mm_h → Prop)
/-- tables of a class: fields, objects, rows, rows of objects, constants, long constants, literals, methods linked -/
abbrev mm_T : Type := List ck_FL × List (Nat × Nat) × List FieldType × List (Nat × String) × List (Nat × Int) × List (Nat × Int) × List (Nat × Nat) × List (Nat × Nat × Nat)
def ck_amb (NM : List (String × Nat × MethodName × String)) (AO : List String) (SL : List (String × Nat × Nat)) (st : Nat → Nat) (U : State) : Prop := (∀ q ∈ NM, va_Nw (.methodLinkNest q.1 q.2.1 q.2.2.1 q.2.2.2) U) ∧ (∀ C ∈ AO, va_AO C U) ∧ ∀ q ∈ SL, ∃ tx, vk_R q.1 q.2.1 tx (st q.2.2) U
theorem ck_amb.warm {NM : List (String × Nat × MethodName × String)} {AO : List String} {SL : List (String × Nat × Nat)} {st : Nat → Nat} {s U : State} (h : ck_amb NM AO SL st s) (hW : s.WarmedH U.vm) : ck_amb NM AO SL st U :=
  ⟨fun q hq => va_Nw.warmM hW (h.1 q hq), fun C hC => va_AO.moved hW.alike (h.2.1 C hC), fun q hq => by obtain ⟨tx, h1⟩ := h.2.2 q hq; exact ⟨tx, h1.warm hW⟩⟩
theorem ck_amb.same {NM : List (String × Nat × MethodName × String)} {AO : List String} {SL : List (String × Nat × Nat)} {st : Nat → Nat} {u U : State} (h : ck_amb NM AO SL st u) (hv : U.vm = u.vm) : ck_amb NM AO SL st U :=
  ⟨fun q hq => va_Nw.same rfl hv.symm (h.1 q hq), fun C hC => va_AO.moved (by rw [hv]; exact Vm.Alike.refl _) (h.2.1 C hC), fun q hq => by obtain ⟨tx, h1⟩ := h.2.2 q hq; exact ⟨tx, h1.same hv⟩⟩
def ck_okL (Ts : List Cond) (NM : List (String × Nat × MethodName × String)) (mts : List ck_MT) (own : String) (q : Nat × Nat × Nat) : Prop := ∃ M, mts[q.2.2]? = some M ∧ Cond.code M.1 M.2.1 M.2.2.1 M.2.2.2.1 ∈ Ts ∧ Cond.initialized M.1.cls ∈ Ts ∧ (M.1.cls ≠ "java/lang/invoke/MethodHandle" ∧ M.1.cls ≠ "java/lang/invoke/VarHandle") ∧ (parseMethodDescriptor M.1.desc).map (fun d => d.parameters.length) = some M.2.2.2.2 ∧ (match q.2.1 with
  | 0 => Cond.methodLink own q.1 M.1 ∈ Ts ∧ Cond.instanceMethod M.1 ∈ Ts ∧ Cond.selects M.1.cls M.1 M.1 ∈ Ts
  | 1 => Cond.methodLink own q.1 M.1 ∈ Ts ∧ Cond.static M.1 ∈ Ts
  | 2 => Cond.methodLink own q.1 M.1 ∈ Ts ∧ Cond.instanceMethod M.1 ∈ Ts ∧ M.1.name = "<init>" ∧ M.2.2.2.1 = none
  | 3 => ∃ h, (own, q.1, M.1, h) ∈ NM ∧ Cond.instanceMethod M.1 ∈ Ts ∧ Cond.selects M.1.cls M.1 M.1 ∈ Ts
  | 4 => ∃ h, (own, q.1, M.1, h) ∈ NM ∧ Cond.static M.1 ∈ Ts
  | 5 => ∃ h, (own, q.1, M.1, h) ∈ NM ∧ Cond.instanceMethod M.1 ∈ Ts ∧ M.1.name = "<init>" ∧ M.2.2.2.1 = none
  | _ => False)
def mm_rm (co : mm_C) : Room := { frames := co.2.1.1, cells := co.2.1.2.2.1, slots := co.2.1.2.2.2, locals := co.2.1.2.1 }
def mm_Pre (D : va_G) (cl : List vw_C) (NM : List (String × Nat × MethodName × String)) (AO : List String) (SL : List (String × Nat × Nat)) (st : Nat → Nat) (tys : List (ClassId × FieldType)) (ws : va_W) (sz : Nat) : State → Prop := fun U => U.heap.size = sz ∧ va_P D cl ws U.heap ∧ va_K D cl tys U ∧ va_D (fun _ => True) ws ∧ ck_amb NM AO SL st U ∧ mm_str st (va_A ws sz) U U.heap
def mm_Post (D : va_G) (cl : List vw_C) (dt : List (List FieldType)) (st : Nat → Nat) (co : mm_C) (h : mm_h) (a : Nat → Nat) (us : List mm_v) (A : Nat → Prop) : Array Value → State → Outcome → State → Prop := fun _ s0 oc t => (∃ (r : Option mm_v) (h' : mm_h) (a' : Nat → Nat) (ws' : va_W) (tys' : List (ClassId × FieldType)), oc = .returned (r.map (mm_val a' st)) ∧ co.2.2.2 us h r h' ∧ (∀ v, r = some v → mm_in h'.1 v) ∧ h.1 ≤ h'.1 ∧ (∀ i, i < h.1 → a' i = a i) ∧ mm_R dt tys' a' h' ws' ∧ va_P D cl ws' t.heap ∧ va_K D cl tys' t ∧ va_D A ws') ∧ va_F A s0 t
def mm_Met (l : Launch) (Ts : List Cond) (mts : List ck_MT) (D : va_G) (cl : List vw_C) (dt : List (List FieldType)) (NM : List (String × Nat × MethodName × String)) (AO : List String) (SL : List (String × Nat × Nat)) (st : Nat → Nat) (co : mm_C) : Prop := ∀ (M : ck_MT), mts[co.1]? = some M → ∀ (h : mm_h) (a : Nat → Nat) (ws : va_W) (tys : List (ClassId × FieldType)) (us : List mm_v) (sz : Nat), mm_R dt tys a h ws → (∀ v ∈ us, mm_in h.1 v) → co.2.2.1 us h → Met l M.1 (Cond.code M.1 M.2.1 M.2.2.1 M.2.2.2.1 :: Ts) (mm_rm co) (va_Pc (us.map (mm_val a st)) (mm_Pre D cl NM AO SL st tys ws sz)) (mm_Post D cl dt st co h a us (va_A ws sz)) co.2.1.2.2.1 co.2.1.2.2.2 (va_A ws sz)
theorem mm_blind {D : va_G} {cl : List vw_C} {NM : List (String × Nat × MethodName × String)} {AO : List String} {SL : List (String × Nat × Nat)} {st : Nat → Nat} {tys : List (ClassId × FieldType)} {ws : va_W} {sz : Nat} {vs : List Value} : FrameBlind (va_Pc vs (mm_Pre D cl NM AO SL st tys ws sz)) := fun a U g mk q => by
  obtain ⟨q0, q1, qP, qK, qD, qA, qS⟩ := q
  exact ⟨q0, q1, qP, va_K.moved (u := U) (U := U.calling g mk a) (Vm.Alike.refl U.vm) qK, qD, qA.same rfl, va_Nw.same rfl rfl qS.1, fun k n hk => ms_X.moved (u := U) (U := U.calling g mk a) (Vm.Alike.refl U.vm) (qS.2 k n hk)⟩
section MML
variable {p : Program} {l : Launch} {e : Env} {R : Room} {s : State} {m : MethodId} {args : Array Value} {below : List Frame} {meth : Method} {c : Code} {Q : State → Prop}
variable {cc : ByteArray} {D : va_G} {cl : List vw_C} {dt : List (List FieldType)} {st : Nat → Nat} {A : Nat → Prop} {nL n0 : Nat} {a0 : Nat → Nat}
variable {L : List (Nat × mm_v)} {S S' : List mm_v} {h : mm_h} {mc ms : Nat} {a : Nat → Nat} {ws : va_W} {tys : List (ClassId × FieldType)} {H : Heap} {locs : List Loc} {ls : Array Slot} {vs : List Value} {pc : Nat} {N : mm_s → Prop}
variable {Ts : List Cond} {AO : List String} {own : String} {NM : List (String × Nat × MethodName × String)} {SL : List (String × Nat × Nat)} {mts : List ck_MT}
/-- behind the call -/
theorem mm_behind {co : mm_C} {us : List mm_v} {st0 : List Value} (hG : mm_G D cl dt st A s nL n0 a0 L S h a ws tys H locs ls (S.map (mm_val a st))) (hA : ∀ q, s.heap.size ≤ q → A q)
    (hr : va_Run p l e R s m args below meth c H locs mc ms co.2.1.2.2.1 co.2.1.2.2.2 (F0 m pc ls st0) (S.map (mm_val a st)) (mm_Post D cl dt st co h a us (va_A ws H.size) (us.map (mm_val a st)).toArray) (va_A ws H.size))
    (hN : ∀ (r : Option mm_v) (h' : mm_h), co.2.2.2 us h r h' → h.1 ≤ h'.1 → (∀ v, r = some v → mm_in h'.1 v) → N (pc + 3, L, r.toList ++ S, h', mc + co.2.1.2.2.1, ms + co.2.1.2.2.2)) (K : ∀ x, N x → mm_K p l e R s m args below meth c Q D cl dt st A nL n0 a0 x) : W p l e R s m args below meth c H locs mc ms Q (F0 m pc ls st0) := by
  intro T hT Xs
  obtain ⟨v, s0, t, T', Ls, h0, X', hL, e1, e2, ⟨⟨r, h', a', ws', tys', hv, hpost, hrin, hle, hag, hR', hP', hK', hD'⟩, hz, hk⟩, go⟩ := hr T hT Xs
  cases hv
  rw [h0] at hz hk
  obtain ⟨g1, ⟨lv, g2, g2'⟩, g3, g4, g5, g6, g7, g8, g9, g10⟩ := hG
  have hAA : ∀ q, va_A ws H.size q → A q := fun q hq => by
    rcases hq with ⟨k, ee, h⟩ | h
    · exact g7.2 k _ h
    · exact hA q (Nat.le_trans g8.1 h)
  have hal : s.vm.Alike t.vm := by rw [← e2]; exact X'.warmed.alike
  have hS' : va_S A s.heap T'.heap (locs ++ Ls) := ⟨Nat.le_trans g8.1 (by rw [e1]; exact hz), fun q h1 h2 => by
    rw [e1, hk q (Nat.lt_of_lt_of_le h1 g8.1) (fun z => h2 (hAA q z))]; exact g8.2.1 q h1 h2, fun q hq => by
    rcases List.mem_append.mp hq with h | h
    · exact g8.2.2 q h
    · exact hAA _ (hL q h)⟩
  have hvs : ∀ w ∈ S, mm_val a' st w = mm_val a st w := fun w hw => mm_val_on (g4 w hw) hag
  have hG' : mm_G D cl dt st A s nL n0 a0 L (r.toList ++ S) h' a' ws' tys' T'.heap (locs ++ Ls) ls ((r.map (mm_val a' st)).toList ++ S.map (mm_val a st)) := by
    refine ⟨hR', ⟨lv, g2, fun q hq => ?_⟩, ?_, fun w hw => ?_, va_K.moved hal.symm hK', by rw [e1]; exact hP', hD'.weaken (fun _ q _ h => hAA q.1 h), hS', Nat.le_trans g9 hle, fun i hi => by rw [hag i (Nat.lt_of_lt_of_le hi g9)]; exact g10 i hi⟩
    · obtain ⟨q1, q2⟩ := g2' q hq
      exact ⟨by rw [mm_val_on q2 hag]; exact q1, q2.mono hle⟩
    · rw [List.map_append]
      congr 1
      · cases r <;> rfl
      · exact List.map_congr_left (fun w hw => (hvs w hw).symm)
    · rcases List.mem_append.mp hw with q | q
      · cases r with
        | none => cases q
        | some v =>
          have ew : w = v := by simpa using q
          rw [ew]; exact hrin v rfl
      · exact (g4 w q).mono hle
  obtain ⟨t2, a1, b1⟩ := K _ (hN r h' hpost hle hrin) a' ws' tys' T'.heap (locs ++ Ls) ls _ hG' T' rfl X'
  exact ⟨t2, go t2 a1, b1⟩
def ck_inv (i : Instr × Nat) : Option (Nat × Nat) := match i with
  | (.invokevirtual x, 3) => some (x, 0)
  | (.invokestatic x, 3) => some (x, 1)
  | (.invokespecial x, 3) => some (x, 2)
  | _ => none
/-- the callee's own object: its cell, and that it is of the class that the method is of -/
def mm_self (cl : List vw_C) (M : ck_MT) (o : Nat) (us : List mm_v) (h : mm_h) : Prop := match o, us with
  | 1, us => us.length = M.2.2.2.2
  | 0, .inr (.inr (.inl (some i))) :: us => us.length = M.2.2.2.2 ∧ i < h.1 ∧ ∃ (ob : Nat × Nat) (r : vw_C), h.2.1 i = .inl ob ∧ cl[ob.1]? = some r ∧ r.1 = M.1.cls
  | 2, .inr (.inr (.inl (some _))) :: us => us.length = M.2.2.2.2
  | _, _ => False
theorem mm_self0 {M : ck_MT} {us : List mm_v} (hs : mm_self cl M 0 us h) : ∃ i us', us = mm_A (some i) :: us' ∧ us'.length = M.2.2.2.2 ∧ i < h.1 ∧ ∃ (ob : Nat × Nat) (r : vw_C), h.2.1 i = .inl ob ∧ cl[ob.1]? = some r ∧ r.1 = M.1.cls := by
  rcases us with _ | ⟨v, us⟩
  · exact hs.elim
  · rcases v with x | x | r | x
    · exact hs.elim
    · exact hs.elim
    · cases r with
      | none => exact hs.elim
      | some i => exact ⟨i, us, rfl, hs⟩
    · exact hs.elim
theorem mm_self2 {M : ck_MT} {us : List mm_v} (hs : mm_self cl M 2 us h) : ∃ i us', us = mm_A (some i) :: us' ∧ us'.length = M.2.2.2.2 := by
  rcases us with _ | ⟨v, us⟩
  · exact hs.elim
  · rcases v with x | x | r | x
    · exact hs.elim
    · exact hs.elim
    · cases r with
      | none => exact hs.elim
      | some i => exact ⟨i, us, rfl, hs⟩
    · exact hs.elim
def mm_cal (cl : List vw_C) (mts : List ck_MT) (ml : List (Nat × Nat × Nat)) (cs : List mm_C) (CM SM FM LM : Nat) (pc : Nat) (i : Instr × Nat) (L : List (Nat × mm_v)) (S : List mm_v) (h : mm_h) (k : Nat × Nat) (N : mm_s → Prop) : Prop :=
  ∃ (xo : Nat × Nat) (q : Nat × Nat × Nat) (M : ck_MT) (co : mm_C) (us S' : List mm_v), ck_inv i = some xo ∧ ml.find? (fun q => q.1 == xo.1) = some q ∧ q.2.1 < 6 ∧ q.2.1 % 3 = xo.2 ∧ mts[q.2.2]? = some M ∧ co ∈ cs ∧ co.1 = q.2.2 ∧ S = us.reverse ++ S' ∧ mm_self cl M xo.2 us h ∧ mm_wd S' ≤ 8 ∧ co.2.1.1 + 1 ≤ FM ∧ 8 + (M.2.2.1 + 11) + co.2.1.2.1 ≤ LM ∧ k.1 + co.2.1.2.2.1 ≤ CM ∧ k.2 + co.2.1.2.2.2 ≤ SM ∧ co.2.2.1 us h ∧
  ∀ (r : Option mm_v) (h' : mm_h), co.2.2.2 us h r h' → h.1 ≤ h'.1 → (∀ v, r = some v → mm_in h'.1 v) → N (pc + 3, L, r.toList ++ S', h', k.1 + co.2.1.2.2.1, k.2 + co.2.1.2.2.2)
theorem mm_cal_ok {ml : List (Nat × Nat × Nat)} {cs : List mm_C} {CM SM FM LM : Nat} {i : Instr × Nat} (hx : p.tables.exec = Jvm.exec) (hb : c.code = cc) (hml : c.maxLocals = nL) (hown : s.vm.findClass own = some m.cls) (hts : ∀ w ∈ Ts, w.before args s = true) (hgood : GoodIn Ts Ts) (hamb : ck_amb NM AO SL st s) (hstr : mm_str st A s s.heap) (hL : ∀ q ∈ ml, q.2.1 < 6 → ck_okL Ts NM mts own q) (hCs : ∀ co ∈ cs, mm_Met l Ts mts D cl dt NM AO SL st co) (hA : ∀ q, s.heap.size ≤ q → A q) (hRc : R.cells = CM) (hRs : R.slots = SM) (hRf : R.frames = FM) (hRl : R.locals = LM) (hd : decode cc pc = .ok i) (hi : mm_cal cl mts ml cs CM SM FM LM pc i L S h (mc, ms) N) (hG : mm_G D cl dt st A s nL n0 a0 L S h a ws tys H locs ls vs) (K : ∀ x, N x → mm_K p l e R s m args below meth c Q D cl dt st A nL n0 a0 x) : W p l e R s m args below meth c H locs mc ms Q (F0 m pc ls vs) := by
  have ev := hG.evs
  subst ev
  obtain ⟨xo, q, M, co, us, S', hxo, hq, c0, c1, hM, hcm, hmt, hS, hself, c5, c6, c7, c8, c9, hpre0, hN⟩ := hi
  subst hS
  have hR := hG.1
  have hK := hG.2.2.2.2.1
  have hP := hG.2.2.2.2.2.1
  have hD := hG.2.2.2.2.2.2.1
  obtain ⟨hmem, e1⟩ := ck_found hq
  obtain ⟨M', hM', w1, w2, w3, w4, w5⟩ := hL q hmem c0
  have eM : M' = M := Option.some.inj (hM'.symm.trans hM)
  subst eM
  have husin : ∀ v ∈ us, mm_in h.1 v := fun v hv => hG.ins v (List.mem_append_left _ (List.mem_reverse.mpr hv))
  have hG' : mm_G D cl dt st A s nL n0 a0 L S' h a ws tys H locs ls (S'.map (mm_val a st)) := hG.stk (fun v hv => hG.ins v (List.mem_append_right _ hv))
  have hMet := hCs co hcm M' (by rw [hmt]; exact hM') h a ws tys us H.size hR husin hpre0
  have hGI : GoodIn Ts (Cond.code M'.1 M'.2.1 M'.2.2.1 M'.2.2.2.1 :: Ts) := fun w hw => by
    rcases List.mem_cons.mp hw with rfl | hw
    · exact hgood _ w1
    · exact hgood _ hw
  have hS0 := hG.2.2.2.2.2.2.2.1
  have hAA : ∀ q, va_A ws H.size q → A q := fun q hq => by
    rcases hq with ⟨k, ee, h⟩ | h
    · exact hD.2 k _ h
    · exact hA q (Nat.le_trans hS0.1 h)
  have hpre : ∀ U : State, U.heap = H → s.WarmedH U.vm → va_Pc (us.map (mm_val a st)) (mm_Pre D cl NM AO SL st tys ws H.size) (us.map (mm_val a st)).toArray U := fun U hU hW => ⟨rfl, by rw [hU], by rw [hU]; exact hP, va_K.moved hW.alike hK, hD.weaken (fun _ _ _ _ => trivial), hamb.warm hW, va_Nw.warmC hW hstr.1, fun k n hk => by rw [hU]; exact (((hstr.2 k n hk).kept hS0.2.1).moved hW.alike).narrow hAA⟩
  have hfit : mc + co.2.1.2.2.1 ≤ R.cells ∧ ms + co.2.1.2.2.2 ≤ R.slots := ⟨by rw [hRc]; exact c8, by rw [hRs]; exact c9⟩
  have hroom : (mm_rm co).frames + 1 ≤ R.frames ∧ 8 + (M'.2.2.1 + 11) + (mm_rm co).locals ≤ R.locals := ⟨by rw [hRf]; exact c6, by rw [hRl]; exact c7⟩
  have hsz : ls.size = nL := by obtain ⟨lv, hl, -⟩ := hG.2.1; exact hl.1
  have hwd : ((S'.map (mm_val a st)).map fun v => v.category).sum ≤ 8 := by rw [mm_wd_ok]; exact c5
  have hmap : (us.reverse ++ S').map (mm_val a st) = (us.map (mm_val a st)).reverse ++ S'.map (mm_val a st) := by rw [List.map_append, List.map_reverse]
  rw [hmap]
  have B : ∀ (y : Nat), Cond.methodLink own y M'.1 ∈ Ts → CallB R s args own y M'.1 M'.2.1 M'.2.2.1 M'.2.2.2.1 (Cond.code M'.1 M'.2.1 M'.2.2.1 M'.2.2.2.1 :: Ts) (mm_rm co) co.2.1.2.2.1 co.2.1.2.2.2 M'.2.2.2.2 := fun y hm => callB_of M'.2.2.2.2 hts hGI rfl rfl rfl (hts _ w2) (hts _ hm) ⟨w3.1, w3.2, w4⟩ hroom
  have BN : ∀ (y : Nat) (host : String), (own, y, M'.1, host) ∈ NM → va_CN R s args own y M'.1 host M'.2.1 M'.2.2.1 M'.2.2.2.1 (Cond.code M'.1 M'.2.1 M'.2.2.1 M'.2.2.2.1 :: Ts) (mm_rm co) co.2.1.2.2.1 co.2.1.2.2.2 M'.2.2.2.2 := fun y host hm => va_cnB M'.2.2.2.2 hts hGI rfl rfl rfl (hamb.1 _ hm) (hts _ w2) ⟨w3.1, w3.2, w4⟩ hroom
  have hfix : CallFix p m c cc nL s args Ts own := ⟨hx, hb, hml, hown, hts⟩
  unfold ck_inv at hxo
  split at hxo
  · cases hxo
    dsimp only at c1 hself e1
    obtain ⟨i0, us', hus, hlen, hi0, ob, r0, hob, hr0, hcls⟩ := mm_self0 hself
    subst hus
    obtain ⟨tl, fs, hb1, -⟩ := hR.obj hi0 hob
    have hrec := va_recv hK hP hr0 hb1
    rw [hcls] at hrec
    have hlA : (us'.map (mm_val a st)).length = M'.2.2.2.2 := by rw [List.length_map]; exact hlen
    have hstk : (List.map (mm_val a st) (mm_A (some i0) :: us')).reverse ++ List.map (mm_val a st) S' = (us'.map (mm_val a st)).reverse ++ .ref (a i0) :: S'.map (mm_val a st) := by
      rw [List.map_cons, List.reverse_cons, List.append_assoc]; rfl
    rcases (show q.2.1 = 0 ∨ q.2.1 = 3 by omega) with hk0 | hk0
    · rw [hk0] at w5
      obtain ⟨z1, z2, z3⟩ := w5
      rw [e1] at z1
      exact mm_behind (co := co) hG' hA (va_runV hfix hMet ⟨B _ z1, hts _ z2, hts _ z3⟩ ⟨mm_blind, hrec, hpre⟩ rfl hlA hsz hstk (lv_room hwd) hd hfit) hN K
    · rw [hk0] at w5
      obtain ⟨host, z1, z2, z3⟩ := w5
      rw [e1] at z1
      exact mm_behind (co := co) hG' hA (va_runVN hfix hMet ⟨BN _ _ z1, hts _ z2, hts _ z3⟩ ⟨mm_blind, hrec, hpre⟩ rfl hlA hsz hstk (lv_room hwd) hd hfit) hN K
  · cases hxo
    dsimp only at c1 hself e1
    have hlA : (us.map (mm_val a st)).length = M'.2.2.2.2 := by rw [List.length_map]; exact hself
    rcases (show q.2.1 = 1 ∨ q.2.1 = 4 by omega) with hk0 | hk0
    · rw [hk0] at w5
      obtain ⟨z1, z2⟩ := w5
      rw [e1] at z1
      exact mm_behind (co := co) hG' hA (va_runS hfix hMet ⟨B _ z1, hts _ z2⟩ ⟨mm_blind, hpre⟩ rfl hlA hsz rfl (lv_room hwd) hd hfit) hN K
    · rw [hk0] at w5
      obtain ⟨host, z1, z2⟩ := w5
      rw [e1] at z1
      exact mm_behind (co := co) hG' hA (va_runSN hfix hMet ⟨BN _ _ z1, hts _ z2, trivial⟩ ⟨mm_blind, hpre⟩ rfl hlA hsz rfl (lv_room hwd) hd hfit) hN K
  · cases hxo
    dsimp only at c1 hself e1
    obtain ⟨i0, us', hus, hlen⟩ := mm_self2 hself
    subst hus
    have hlA : (us'.map (mm_val a st)).length = M'.2.2.2.2 := by rw [List.length_map]; exact hlen
    have hstk : (List.map (mm_val a st) (mm_A (some i0) :: us')).reverse ++ List.map (mm_val a st) S' = (us'.map (mm_val a st)).reverse ++ .ref (a i0) :: S'.map (mm_val a st) := by
      rw [List.map_cons, List.reverse_cons, List.append_assoc]; rfl
    rcases (show q.2.1 = 2 ∨ q.2.1 = 5 by omega) with hk0 | hk0
    · rw [hk0] at w5
      obtain ⟨z1, z2, z3, z4⟩ := w5
      rw [e1] at z1
      have cb := B _ z1
      rw [z4] at hMet cb
      exact mm_behind (co := co) hG' hA (va_runI hfix hMet ⟨cb, z3, hts _ z2⟩ ⟨mm_blind, hpre⟩ rfl hlA hsz hstk (lv_room hwd) hd hfit) hN K
    · rw [hk0] at w5
      obtain ⟨host, z1, z2, z3, z4⟩ := w5
      rw [e1] at z1
      have cb := BN _ _ z1
      rw [z4] at hMet cb
      exact mm_behind (co := co) hG' hA (va_runIN hfix hMet ⟨cb, z3, hts _ z2⟩ ⟨mm_blind, hpre⟩ rfl hlA hsz hstk (lv_room hwd) hd hfit) hN K
  · cases hxo
/-! returns -/
def mm_rt (ret : Option FieldType) (Rt : Option mm_v → mm_h → Nat × Nat → Prop) (i : Instr × Nat) (S : List mm_v) (h : mm_h) (k : Nat × Nat) : Prop := match i, S with
  | (.ireturn, 1), [.inl x] => (∃ t, ret = some t ∧ narrow t (.int x) = .int x) ∧ Rt (some (mm_I x)) h k
  | (.lreturn, 1), [.inr (.inl y)] => ret = some .long ∧ Rt (some (mm_J y)) h k
  | (.areturn, 1), [.inr (.inr v)] => (∃ t, ret = some t ∧ ((∃ n, t = .object n) ∨ ∃ u, t = .array u)) ∧ Rt (some (.inr (.inr v))) h k
  | (.return_, 1), [] => ret = none ∧ Rt none h k
  | _, _ => False
/-- one step of the pure machine: what it wants, and to which places it may go -/
def mm_nx (cl : List vw_C) (dt : List (List FieldType)) (mts : List ck_MT) (T : mm_T) (cs : List mm_C) (ini : Bool) (nL CM SM FM LM : Nat) (cc : ByteArray) (ret : Option FieldType) (Rt : Option mm_v → mm_h → Nat × Nat → Prop) (x : mm_s) (N : mm_s → Prop) : Prop := ∃ i, decode cc x.1 = .ok i ∧
  (mm_a x.1 i x.2.1 x.2.2.1 x.2.2.2.1 x.2.2.2.2 N ∨ mm_b nL x.1 i x.2.1 x.2.2.1 x.2.2.2.1 x.2.2.2.2 N ∨ mm_c x.1 i x.2.1 x.2.2.1 x.2.2.2.1 x.2.2.2.2 N ∨ mm_d x.1 i x.2.1 x.2.2.1 x.2.2.2.1 x.2.2.2.2 N ∨ mm_e x.1 i x.2.1 x.2.2.1 x.2.2.2.1 x.2.2.2.2 N ∨ mm_f T.1 dt ini x.1 i x.2.1 x.2.2.1 x.2.2.2.1 x.2.2.2.2 N ∨ mm_ld x.1 i x.2.1 x.2.2.1 x.2.2.2.1 x.2.2.2.2 N ∨ mm_sw cl x.1 i x.2.1 x.2.2.1 x.2.2.2.1 x.2.2.2.2 N ∨ mm_n T.2.1 dt T.2.2.1 T.2.2.2.1 CM SM x.1 i x.2.1 x.2.2.1 x.2.2.2.1 x.2.2.2.2 N ∨ mm_k T.2.2.2.2.1 T.2.2.2.2.2.1 T.2.2.2.2.2.2.1 x.1 i x.2.1 x.2.2.1 x.2.2.2.1 x.2.2.2.2 N ∨ mm_y T.2.2.2.2.2.2.2 CM SM FM LM x.1 i x.2.1 x.2.2.1 x.2.2.2.1 x.2.2.2.2 N ∨ mm_x T.2.2.2.2.2.2.2 CM SM FM LM x.1 i x.2.1 x.2.2.1 x.2.2.2.1 x.2.2.2.2 N ∨ mm_cal cl mts T.2.2.2.2.2.2.2 cs CM SM FM LM x.1 i x.2.1 x.2.2.1 x.2.2.2.1 x.2.2.2.2 N ∨ mm_rt ret Rt i x.2.2.1 x.2.2.2.1 x.2.2.2.2)
/-- the pure machine goes well from x on, and ends as Rt says -/
def mm_W (cl : List vw_C) (dt : List (List FieldType)) (mts : List ck_MT) (T : mm_T) (cs : List mm_C) (ini : Bool) (nL CM SM FM LM : Nat) (cc : ByteArray) (ret : Option FieldType) (Rt : Option mm_v → mm_h → Nat × Nat → Prop) (x : mm_s) : Prop := ∀ P : mm_s → Prop, (∀ y N, mm_nx cl dt mts T cs ini nL CM SM FM LM cc ret Rt y N → (∀ z, N z → P z) → P y) → P x
theorem mm_W.of {T : mm_T} {cs : List mm_C} {ini : Bool} {CM SM FM LM : Nat} {ret : Option FieldType} {Rt : Option mm_v → mm_h → Nat × Nat → Prop} {x : mm_s} (hn : mm_nx cl dt mts T cs ini nL CM SM FM LM cc ret Rt x (mm_W cl dt mts T cs ini nL CM SM FM LM cc ret Rt)) : mm_W cl dt mts T cs ini nL CM SM FM LM cc ret Rt x := fun P hP => hP x _ hn (fun z hz => hz P hP)
def mm_okT (cl : List vw_C) (Ts : List Cond) (NM : List (String × Nat × MethodName × String)) (AO : List String) (SL : List (String × Nat × Nat)) (mts : List ck_MT) (own : String) (T : mm_T) : Prop :=
  (∀ q ∈ T.1, ck_okF cl Ts own q) ∧ (∀ q ∈ T.2.1, ck_okN cl Ts own q) ∧ (∀ t ∈ T.2.2.1, Cond.arrayClass t ∈ Ts) ∧ (∀ q ∈ T.2.2.2.1, ck_okA Ts AO own q) ∧ (∀ q ∈ T.2.2.2.2.1, Cond.constant own q.1 (Int32.ofInt q.2) ∈ Ts) ∧ (∀ q ∈ T.2.2.2.2.2.1, Cond.constantLong own q.1 (Int64.ofInt q.2) ∈ Ts) ∧ (∀ q ∈ T.2.2.2.2.2.2.1, (own, q.1, q.2) ∈ SL) ∧ (∀ q ∈ T.2.2.2.2.2.2.2, q.2.1 < 6 → ck_okL Ts NM mts own q) ∧ (∀ q ∈ T.2.2.2.2.2.2.2, mm_okY Ts own q) ∧ ∀ q ∈ T.2.2.2.2.2.2.2, mm_okZ Ts own q
theorem mm_W_ok {T : mm_T} {cs : List mm_C} {ini : Bool} {CM SM FM LM : Nat} {ret : Option FieldType} {Rt : Option mm_v → mm_h → Nat × Nat → Prop} (hx : p.tables.exec = Jvm.exec) (hb : c.code = cc) (hml : c.maxLocals = nL) (hown : s.vm.findClass own = some m.cls) (hts : ∀ w ∈ Ts, w.before args s = true) (hgood : GoodIn Ts Ts) (hamb : ck_amb NM AO SL st s) (hstr : mm_str st A s s.heap) (hC : ck_okC cl Ts) (hDt : ck_okD cl dt) (hT : mm_okT cl Ts NM AO SL mts own T) (hCs : ∀ co ∈ cs, mm_Met l Ts mts D cl dt NM AO SL st co) (hA : ∀ q, s.heap.size ≤ q → A q) (hini : ini = true → meth.name = "<init>") (hRc : R.cells = CM) (hRs : R.slots = SM) (hRf : R.frames = FM) (hRl : R.locals = LM)
    (hrt : ∀ (i : Instr × Nat) (x : mm_s), decode cc x.1 = .ok i → mm_rt ret Rt i x.2.2.1 x.2.2.2.1 x.2.2.2.2 → mm_K p l e R s m args below meth c Q D cl dt st A nL n0 a0 x) {x : mm_s} (hW : mm_W cl dt mts T cs ini nL CM SM FM LM cc ret Rt x) : mm_K p l e R s m args below meth c Q D cl dt st A nL n0 a0 x := by
  obtain ⟨t1, t2, t3, t4, t5, t6, t7, t8, t9, t10⟩ := hT
  refine hW _ (fun y N hy K => ?_)
  obtain ⟨pc, L, S, h, mc, ms⟩ := y
  obtain ⟨i, hd, hh⟩ := hy
  dsimp only at hd hh
  intro a ws tys H locs ls vs hG
  dsimp only at hG ⊢
  rcases hh with hh | hh | hh | hh | hh | hh | hh | hh | hh | hh | hh | hh | hh | hh
  · exact mm_a_ok hx hb hd hh hG K
  · exact mm_b_ok hx hb hd hh hG K
  · exact mm_c_ok hx hb hd hh hG K
  · exact mm_d_ok hx hb hd hh hG K
  · exact mm_e_ok hx hb hd hh hG K
  · exact mm_f_ok hx hb hown hts hC t1 hini hd hh hG K
  · exact mm_ld_ok hx hb hd hh hG K
  · exact mm_sw_ok hx hb hd hh hG K
  · exact mm_n_ok hx hb hown hts hamb.2.1 hC t2 hDt t3 t4 hA hRc hRs hd hh hG K
  · exact mm_k_ok hx hb hown hts t5 t6 (fun q hq => hamb.2.2 _ (t7 q hq)) hd hh hG K
  · exact mm_y_ok hx hb hml hown hts t9 hRc hRs hRf hRl hd hh hG K
  · exact mm_x_ok hx hb hml hown hts hgood hstr t9 t10 hA hRc hRs hRf hRl hd hh hG K
  · exact mm_cal_ok hx hb hml hown hts hgood hamb hstr t8 hCs hA hRc hRs hRf hRl hd hh hG K
  · exact hrt i (pc, L, S, h, mc, ms) hd hh a ws tys H locs ls vs hG
/-! a method whose pure run goes well is met -/
def mm_ent : Nat → List mm_v → List (Nat × mm_v)
  | _, [] => []
  | j, v :: us => (j, v) :: mm_ent (if mm_two v = true then j + 2 else j + 1) us
theorem mm_ent_args (a st : Nat → Nat) : ∀ (us : List mm_v) (j : Nat), ∀ q ∈ mm_ent j us, (q.1, mm_val a st q.2) ∈ lv_args j (us.map (mm_val a st)) ∧ q.2 ∈ us
  | [], _, q, hq => by cases hq
  | v :: us, j, q, hq => by
    have e : (if (mm_val a st v).category = 2 then j + 2 else j + 1) = if mm_two v = true then j + 2 else j + 1 := by
      rw [mm_val_cat]
      cases mm_two v <;> rfl
    rcases List.mem_cons.mp hq with rfl | hq
    · exact ⟨List.mem_cons_self, List.mem_cons_self⟩
    · obtain ⟨h1, h2⟩ := mm_ent_args a st us _ q hq
      refine ⟨?_, List.mem_cons_of_mem _ h2⟩
      show _ ∈ (j, mm_val a st v) :: lv_args (if (mm_val a st v).category = 2 then j + 2 else j + 1) (us.map (mm_val a st))
      rw [e]
      exact List.mem_cons_of_mem _ h1
theorem mm_slots (a st : Nat → Nat) : ∀ us : List mm_v, (lg_sl (us.map (mm_val a st))).length = mm_wd us
  | [] => rfl
  | v :: us => by
    have ih := mm_slots a st us
    unfold mm_wd lg_sl at ih ⊢
    rw [List.map_cons, List.map_cons, List.sum_cons, List.flatMap_cons, List.length_append, ih, mm_val_cat]
    cases mm_two v <;> rfl
theorem mm_sound {T : mm_T} {cs : List mm_C} {co : mm_C} (l : Launch) (hgood : GoodIn Ts Ts) (hC : ck_okC cl Ts) (hDt : ck_okD cl dt) {M0 : ck_MT} (h0 : mts[co.1]? = some M0) (hpl : plainName M0.1.cls = true) (hT : mm_okT cl Ts NM AO SL mts M0.1.cls T) (hCs : ∀ c ∈ cs, mm_Met l Ts mts D cl dt NM AO SL st c)
    (hW : ∀ (us : List mm_v) (h : mm_h), (∀ v ∈ us, mm_in h.1 v) → co.2.2.1 us h → mm_wd us ≤ M0.2.2.1 ∧ mm_W cl dt mts T cs (decide (M0.1.name = "<init>")) M0.2.2.1 co.2.1.2.2.1 co.2.1.2.2.2 co.2.1.1 co.2.1.2.1 M0.2.1 M0.2.2.2.1 (fun r h' k => h.1 ≤ h'.1 ∧ k.1 ≤ co.2.1.2.2.1 ∧ k.2 ≤ co.2.1.2.2.2 ∧ co.2.2.2 us h r h') (0, mm_ent 0 us, [], h, 0, 0)) : mm_Met l Ts mts D cl dt NM AO SL st co := by
  intro M hM h a ws tys us sz hR hin hpre
  have eM : M = M0 := Option.some.inj (hM.symm.trans h0)
  subst eM
  obtain ⟨hwd, hrun⟩ := hW us h hin hpre
  refine Met.ofW (cc := M.2.1) (maxL := M.2.2.1) (ret := M.2.2.2.1) hpl rfl ?_
  intro p e s m args below meth c s₁ B hml hv
  obtain ⟨rfl, hsz, hP, hK, hD0, hamb, hstr⟩ := hv
  subst hsz
  have hx := B.exec
  have hb := B.bytes
  have hr := B.returns
  have hts0 := atoms_spec (ws := Cond.code M.1 M.2.1 M.2.2.1 M.2.2.2.1 :: Ts) B.pre
  have hts : ∀ w ∈ Ts, w.before (us.map (mm_val a st)).toArray s = true := fun w hw => hts0 w (List.mem_cons_of_mem _ hw)
  have hown : s.vm.findClass M.1.cls = some m.cls := findClass_of_methodNamed B.named
  have hlocks := B.notSynchronized
  have hl := lv_entry (us.map (mm_val a st)) (n := M.2.2.1) (by rw [mm_slots]; exact hwd)
  rw [lg_entry_eq]
  generalize (lg_sl (us.map (mm_val a st)) ++ List.replicate (M.2.2.1 - (lg_sl (us.map (mm_val a st))).length) Slot.unset).toArray = ls at hl ⊢
  have hG : mm_G D cl dt st (va_A ws s.heap.size) s M.2.2.1 h.1 a (mm_ent 0 us) [] h a ws tys s.heap [] ls [] := ⟨hR, ⟨_, hl, fun q hq => ⟨(mm_ent_args a st us 0 q hq).1, hin _ (mm_ent_args a st us 0 q hq).2⟩⟩, rfl, (fun v hv => by cases hv), hK, hP, hD0.self, va_S.rf, Nat.le_refl _, fun _ _ => rfl⟩
  suffices key : mm_K p l e (headSpec (Cond.code M.1 M.2.1 M.2.2.1 M.2.2.2.1 :: Ts) (mm_rm co)).room s m (us.map (mm_val a st)).toArray below meth c (MQ below (mm_Post D cl dt st co h a us (va_A ws s.heap.size)) (us.map (mm_val a st)).toArray s co.2.1.2.2.1 co.2.1.2.2.2 (va_A ws s.heap.size)) D cl dt st (va_A ws s.heap.size) M.2.2.1 h.1 a (0, mm_ent 0 us, [], h, 0, 0) from key a ws tys s.heap [] ls [] hG
  refine mm_W_ok (CM := co.2.1.2.2.1) (SM := co.2.1.2.2.2) (FM := co.2.1.1) (LM := co.2.1.2.1) hx hb hml hown hts hgood hamb hstr hC hDt hT hCs (fun q hq => Or.inr hq) (fun hi => ?_) rfl rfl rfl rfl (fun i x hd hrr => ?_) hrun
  · have hname : M.1.name = "<init>" := of_decide_eq_true hi
    rw [← hname]
    exact (name_of_methodNamed B.named B.method).1
  · obtain ⟨pc, L, S, h', mc, ms⟩ := x
    dsimp only at hd hrr
    intro a' ws' tys' H' locs' ls' vs' hG'
    dsimp only at hG' ⊢
    obtain ⟨g1, -, g3, g4, g5, g6, g7, g8, g9, g10⟩ := hG'
    subst g3
    have hf : ∀ q ∈ locs', va_A ws s.heap.size q.base := g8.2.2
    have fin : ∀ (r : Option mm_v), (∀ v, r = some v → mm_in h'.1 v) → co.2.2.2 us h r h' → ∀ t : State, t.heap = H' → s.WarmedH t.vm → mm_Post D cl dt st co h a us (va_A ws s.heap.size) (us.map (mm_val a st)).toArray s (.returned (r.map (mm_val a' st))) t := fun r hr1 hr2 t ht hWm => ⟨⟨r, h', a', ws', tys', rfl, hr2, hr1, g9, g10, g1, by rw [ht]; exact g6, va_K.moved hWm.alike g5, g7⟩, by rw [ht]; exact g8.1, fun q hq hA => by rw [ht]; exact g8.2.1 q hq hA⟩
    unfold mm_rt at hrr
    split at hrr
    · obtain ⟨⟨t, ht1, ht2⟩, hq1, hq2, hq3, hq4⟩ := hrr
      refine W.widen hq2 hq3 ?_
      exact W.zret hx hb (hr.trans ht1) ht2 (fin (some (mm_I _)) (fun v hv => g4 v (by rw [← Option.some.inj hv]; exact List.mem_cons_self)) hq4) hf hd hlocks
    · obtain ⟨ht1, hq1, hq2, hq3, hq4⟩ := hrr
      refine W.widen hq2 hq3 ?_
      exact W.lret hx hb (hr.trans ht1) (fin (some (mm_J _)) (fun v hv => g4 v (by rw [← Option.some.inj hv]; exact List.mem_cons_self)) hq4) hf hd hlocks
    · rename_i v
      obtain ⟨⟨t, ht1, ht2⟩, hq1, hq2, hq3, hq4⟩ := hrr
      refine W.widen hq2 hq3 ?_
      exact W.aret hx hb (hr.trans ht1) ht2 (mm_rf_cases (v := .inr (.inr v)) rfl) (fin (some (.inr (.inr v))) (fun w hw => g4 w (by rw [← Option.some.inj hw]; exact List.mem_cons_self)) hq4) hf hd hlocks
    · obtain ⟨ht1, hq1, hq2, hq3, hq4⟩ := hrr
      refine W.widen hq2 hq3 ?_
      exact W.vret hx hb (hr.trans ht1) (fin none (fun v hv => by cases hv) hq4) hf hd hlocks
    · exact hrr.elim
end MML
