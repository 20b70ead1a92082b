/-! THE TABLE RUN, 2: steps that leave the cells as they are -/
section CKA
variable {p : Program} {l : Launch} {e : Env} {R : Room} {s : State} {m : MethodId} {args : Array Value} {below : List Frame} {meth : Method} {c : Code} {Q : State → Prop}
variable {cc : ByteArray} {D : va_G} {cl : List vw_C} {st : Nat → Nat} {sh : List ck_Sh} {A : Nat → Prop} {nL : Nat} {wr : List (Nat × Nat)} {ws0 : va_W}
/-- the machine is as the table says -/
def ck_G (D : va_G) (cl : List vw_C) (st : Nat → Nat) (sh : List ck_Sh) (A : Nat → Prop) (s : State) (nL : Nat) (wr : List (Nat × Nat)) (ws0 : va_W) (I : List ck_I) (L : List (Nat × ck_V)) (S : List ck_V) (X : ck_D) (nc : Nat) (ν : Nat → Int) (ws : va_W) (tys : List (ClassId × FieldType)) (H : Heap) (locs : List Loc) (ls : Array Slot) (vs : List Value) : Prop :=
  ck_gi ν I ∧ ck_gl ν st ws I.length nL L ls ∧ ck_gs ν st ws I.length S vs ∧ ck_gd st ws X ∧ ck_w sh tys ws nc ∧ va_K D cl tys s ∧ va_P D cl ws H ∧ va_D A ws ∧ va_S A s.heap H locs ∧ ck_fr wr ws0 ws
/-- from the place x on all goes well, whatever the old symbols I grew to -/
def ck_N (p : Program) (l : Launch) (e : Env) (R : Room) (s : State) (m : MethodId) (args : Array Value) (below : List Frame) (meth : Method) (c : Code) (Q : State → Prop) (D : va_G) (cl : List vw_C) (st : Nat → Nat) (sh : List ck_Sh) (A : Nat → Prop) (nL : Nat) (wr : List (Nat × Nat)) (ws0 : va_W) (n : Nat) (ν : Nat → Int) (x : Nat × ck_S) : Prop :=
  ∀ (ν' : Nat → Int) (ws' : va_W) (tys' : List (ClassId × FieldType)) (H' : Heap) (locs' : List Loc) (ls' : Array Slot) (vs' : List Value), (∀ j, j < n → ν' j = ν j) → ck_G D cl st sh A s nL wr ws0 x.2.1 x.2.2.1 x.2.2.2.1 x.2.2.2.2.1 x.2.2.2.2.2.1 ν' ws' tys' H' locs' ls' vs' → W p l e R s m args below meth c H' locs' x.2.2.2.2.2.2.1 x.2.2.2.2.2.2.2 Q (F0 m x.1 ls' vs')
variable {I I' : List ck_I} {L : List (Nat × ck_V)} {S S' : List ck_V} {X : ck_D} {nc mc ms n : Nat} {ν ν' : Nat → Int} {ws : va_W} {tys : List (ClassId × FieldType)} {H : Heap} {locs : List Loc} {ls : Array Slot} {vs vs' : List Value} {pc : Nat}
theorem ck_G.grow (h : ck_G D cl st sh A s nL wr ws0 I L S X nc ν ws tys H locs ls vs) (hν : ∀ j, j < I.length → ν' j = ν j) (hn : I.length ≤ I'.length) (hi : ck_gi ν' I') : ck_G D cl st sh A s nL wr ws0 I' L S X nc ν' ws tys H locs ls vs := by
  obtain ⟨h1, h2, h3, h4⟩ := h
  exact ⟨hi, h2.on ck_on.rf hn hν, h3.on ck_on.rf hn hν, h4⟩
theorem ck_G.stk (h : ck_G D cl st sh A s nL wr ws0 I L S X nc ν ws tys H locs ls vs) (hs : ck_gs ν st ws I.length S' vs') : ck_G D cl st sh A s nL wr ws0 I L S' X nc ν ws tys H locs ls vs' := by
  obtain ⟨h1, h2, h3, h4⟩ := h
  exact ⟨h1, h2, hs, h4⟩
theorem ck_G.gs (h : ck_G D cl st sh A s nL wr ws0 I L S X nc ν ws tys H locs ls vs) : ck_gs ν st ws I.length S vs := h.2.2.1
theorem ck_G.gi (h : ck_G D cl st sh A s nL wr ws0 I L S X nc ν ws tys H locs ls vs) : ck_gi ν I := h.1
theorem ck_G.cut (h : ck_G D cl st sh A s nL wr ws0 I L S X nc ν ws tys H locs ls vs) (hn : I'.length = I.length) (hi : ck_gi ν I') : ck_G D cl st sh A s nL wr ws0 I' L S X nc ν ws tys H locs ls vs := h.grow (fun _ _ => rfl) (by omega) hi
theorem ck_gs.pop {V : ck_V} (h : ck_gs ν st ws n (V :: S) vs) : ∃ v vs', vs = v :: vs' ∧ ck_gv ν st ws n V v ∧ ck_gs ν st ws n S vs' := by
  cases vs with
  | nil => exact h.elim
  | cons v vs' => exact ⟨v, vs', rfl, h.1, h.2⟩
/-- a number that an operation gave goes on the stack -/
theorem ck_pushv {f : ck_L} {x : Int32} (hG : ck_G D cl st sh A s nL wr ws0 I L S X nc ν ws tys H locs ls vs) (hn : n ≤ I.length) (hr : ck_res ν I I' f x.toInt) (K : ck_N p l e R s m args below meth c Q D cl st sh A nL wr ws0 n ν (pc, (I', L, .inl f :: S, X, nc, mc, ms))) : W p l e R s m args below meth c H locs mc ms Q (F0 m pc ls (.int x :: vs)) := by
  obtain ⟨ν', h1, h2, h3, h4, h5⟩ := hr
  have hG' := hG.grow h1 h2 h3
  exact K ν' ws tys H locs ls _ (fun j hj => h1 j (by omega)) (hG'.stk ⟨⟨h4, x, rfl, h5.symm⟩, hG'.gs⟩)
/-- a value whose form is there goes on the stack -/
theorem ck_pushV {V : ck_V} {v : Value} (hG : ck_G D cl st sh A s nL wr ws0 I L S X nc ν ws tys H locs ls vs) (hv : ck_gv ν st ws I.length V v) (K : ck_N p l e R s m args below meth c Q D cl st sh A nL wr ws0 n ν (pc, (I, L, V :: S, X, nc, mc, ms))) : W p l e R s m args below meth c H locs mc ms Q (F0 m pc ls (v :: vs)) :=
  K ν ws tys H locs ls _ (fun _ _ => rfl) (hG.stk ⟨hv, hG.gs⟩)
/-- a form of which the table knows the value is that number -/
def ck_norm (I : List ck_I) (f : ck_L) : ck_L := if (ck_rng I f).1 = (ck_rng I f).2 then ck_k (ck_rng I f).1 else f
theorem ck_norm_ok {f : ck_L} {x : Int32} (hi : ck_gi ν I) (w : ck_wf I.length f) (hx : x.toInt = ck_ev ν f) : ck_wf I.length (ck_norm I f) ∧ x.toInt = ck_ev ν (ck_norm I f) := by
  have rx := ck_rng32 hi hx
  unfold ck_norm
  split
  · refine ⟨Or.inl rfl, ?_⟩
    simp only [ck_ev, ck_k, Int.zero_mul, Int.zero_add]
    omega
  · exact ⟨w, hx⟩
/-- constants and loads -/
def ck_a (pc : Nat) (i : Instr × Nat) (I : List ck_I) (L : List (Nat × ck_V)) (S : List ck_V) (X : ck_D) (k : Nat × Nat × Nat) : Option (List (Nat × ck_S)) := match i with
  | (.iconst z, 1) => some [(pc + 1, (I, L, .inl (ck_k (Int32.ofInt z).toInt) :: S, X, k))]
  | (.bipush z, 2) => some [(pc + 2, (I, L, .inl (ck_k (Int8.ofInt z).toInt32.toInt) :: S, X, k))]
  | (.sipush z, 3) => some [(pc + 3, (I, L, .inl (ck_k (Int16.ofInt z).toInt32.toInt) :: S, X, k))]
  | (.aconst_null, 1) => some [(pc + 1, (I, L, .inr (1, 0) :: S, X, k))]
  | (.iload_n j, 1) => match ck_get L j.val with
    | some (.inl f) => some [(pc + 1, (I, L, .inl (ck_norm I f) :: S, X, k))]
    | _ => none
  | (.iload j, 2) => match ck_get L j with
    | some (.inl f) => some [(pc + 2, (I, L, .inl (ck_norm I f) :: S, X, k))]
    | _ => none
  | (.aload_n j, 1) => match ck_get L j.val with
    | some (.inr q) => if ck_one (.inr q) = true then some [(pc + 1, (I, L, .inr q :: S, X, k))] else none
    | _ => none
  | (.aload j, 2) => match ck_get L j with
    | some (.inr q) => if ck_one (.inr q) = true then some [(pc + 2, (I, L, .inr q :: S, X, k))] else none
    | _ => none
  | _ => none
theorem ck_refs {q : Nat × Nat} {v : Value} (h1 : ck_one (.inr q) = true) (h : ck_fv st ws (.inr q) v) : v = .null ∨ ∃ a, v = .ref a := by
  obtain ⟨t, i⟩ := q
  match t, h1, h with
  | 0, _, h => obtain ⟨q, -, rfl⟩ := h; exact Or.inr ⟨_, rfl⟩
  | 1, _, h => exact Or.inl h
  | 2, _, h => exact Or.inr ⟨_, h⟩
  | _ + 3, h1, _ => cases h1
theorem ck_a_ok {i : Instr × Nat} {xs : List (Nat × ck_S)} (hx : p.tables.exec = Jvm.exec) (hb : c.code = cc) (hd : decode cc pc = .ok i) (h : ck_a pc i I L S X (nc, mc, ms) = some xs) (hn : n ≤ I.length) (hG : ck_G D cl st sh A s nL wr ws0 I L S X nc ν ws tys H locs ls vs)
    (K : ∀ x ∈ xs, ck_N p l e R s m args below meth c Q D cl st sh A nL wr ws0 n ν x) : W p l e R s m args below meth c H locs mc ms Q (F0 m pc ls vs) := by
  unfold ck_a at h
  split at h
  · cases h
    exact lv_iconst hx hb hd rfl (ck_pushv hG hn (ck_k_ok hG.gi _) (K _ List.mem_cons_self))
  · cases h
    exact lv_bipush hx hb hd rfl (ck_pushv hG hn (ck_k_ok hG.gi _) (K _ List.mem_cons_self))
  · cases h
    exact lv_sipush hx hb hd rfl (ck_pushv hG hn (ck_k_ok hG.gi _) (K _ List.mem_cons_self))
  · cases h
    exact lv_null hx hb hd (ck_pushV (V := .inr (1, 0)) hG rfl (K _ List.mem_cons_self))
  · split at h
    · rename_i hg
      cases h
      obtain ⟨v, h1, h2⟩ := hG.2.1.get hg
      obtain ⟨w, x, rfl, h3⟩ := id h2
      exact lv_iload_n hx hb hd rfl h1 (ck_pushV (V := .inl (ck_norm I _)) hG ⟨(ck_norm_ok hG.gi w h3).1, x, rfl, (ck_norm_ok hG.gi w h3).2⟩ (K _ List.mem_cons_self))
    · cases h
  · split at h
    · rename_i hg
      cases h
      obtain ⟨v, h1, h2⟩ := hG.2.1.get hg
      obtain ⟨w, x, rfl, h3⟩ := id h2
      exact lv_iload hx hb hd h1 (ck_pushV (V := .inl (ck_norm I _)) hG ⟨(ck_norm_ok hG.gi w h3).1, x, rfl, (ck_norm_ok hG.gi w h3).2⟩ (K _ List.mem_cons_self))
    · cases h
  · split at h
    · rename_i hg
      split at h
      · rename_i ho
        cases h
        obtain ⟨v, h1, h2⟩ := hG.2.1.get hg
        rcases ck_refs ho h2 with rfl | ⟨a, rfl⟩
        · exact lv_aload_nN hx hb hd rfl h1 (ck_pushV hG h2 (K _ List.mem_cons_self))
        · exact lv_aload_n hx hb hd rfl h1 (ck_pushV hG h2 (K _ List.mem_cons_self))
      · cases h
    · cases h
  · split at h
    · rename_i hg
      split at h
      · rename_i ho
        cases h
        obtain ⟨v, h1, h2⟩ := hG.2.1.get hg
        rcases ck_refs ho h2 with rfl | ⟨a, rfl⟩
        · exact lv_aloadN hx hb hd h1 (ck_pushV hG h2 (K _ List.mem_cons_self))
        · exact lv_aload hx hb hd h1 (ck_pushV hG h2 (K _ List.mem_cons_self))
      · cases h
    · cases h
  · cases h
/-- stores -/
def ck_b (nL : Nat) (pc : Nat) (i : Instr × Nat) (I : List ck_I) (L : List (Nat × ck_V)) (S : List ck_V) (X : ck_D) (k : Nat × Nat × Nat) : Option (List (Nat × ck_S)) := match i, S with
  | (.istore_n j, 1), .inl f :: S => if j.val < nL then some [(pc + 1, (I, ck_put L j.val (.inl f), S, X, k))] else none
  | (.istore j, 2), .inl f :: S => if j < nL then some [(pc + 2, (I, ck_put L j (.inl f), S, X, k))] else none
  | (.astore_n j, 1), .inr q :: S => if j.val < nL ∧ ck_one (.inr q) = true then some [(pc + 1, (I, ck_put L j.val (.inr q), S, X, k))] else none
  | (.astore j, 2), .inr q :: S => if j < nL ∧ ck_one (.inr q) = true then some [(pc + 2, (I, ck_put L j (.inr q), S, X, k))] else none
  | (.iinc j z, 3), S => match ck_get L j with
    | some (.inl f) => if j < nL then let r := ck_add I f (ck_k (Int32.ofInt z).toInt); some [(pc + 3, (r.1, ck_put L j (.inl r.2), S, X, k))] else none
    | _ => none
  | _, _ => none
theorem ck_G.put {V : ck_V} {v : Value} {j : Nat} {lv : List (Nat × Value)} {ls' : Array Slot} (hG : ck_G D cl st sh A s nL wr ws0 I L S X nc ν ws tys H locs ls vs) (h2 : ∀ q ∈ L, ∃ v, (q.1, v) ∈ lv ∧ ck_gv ν st ws I.length q.2 v) (hv : ck_gv ν st ws I.length V v) (h : lv_has ls' nL ((j, v) :: lv.filter (fun q => !(q.1 == j) && !(q.1 + 1 == j && q.2.category == 2)))) : ck_G D cl st sh A s nL wr ws0 I (ck_put L j V) S X nc ν ws tys H locs ls' vs :=
  ⟨hG.1, ck_gl.put h2 hv h, hG.2.2⟩
theorem ck_b_ok {i : Instr × Nat} {xs : List (Nat × ck_S)} (hx : p.tables.exec = Jvm.exec) (hb : c.code = cc) (hd : decode cc pc = .ok i) (h : ck_b nL pc i I L S X (nc, mc, ms) = some xs) (hn : n ≤ I.length) (hG : ck_G D cl st sh A s nL wr ws0 I L S X nc ν ws tys H locs ls vs)
    (K : ∀ x ∈ xs, ck_N p l e R s m args below meth c Q D cl st sh A nL wr ws0 n ν x) : W p l e R s m args below meth c H locs mc ms Q (F0 m pc ls vs) := by
  unfold ck_b at h
  split at h
  · split at h
    · rename_i hj
      cases h
      obtain ⟨v, vs', rfl, h1, h2⟩ := hG.gs.pop
      obtain ⟨w, x, rfl, h3⟩ := id h1
      obtain ⟨lv, hl, hm⟩ := hG.2.1
      exact lv_istore_n hx hb hd rfl hl hj rfl (fun ls' hl' => K _ List.mem_cons_self ν ws tys H locs ls' _ (fun _ _ => rfl) ((hG.stk h2).put hm h1 hl'))
    · cases h
  · split at h
    · rename_i hj
      cases h
      obtain ⟨v, vs', rfl, h1, h2⟩ := hG.gs.pop
      obtain ⟨w, x, rfl, h3⟩ := id h1
      obtain ⟨lv, hl, hm⟩ := hG.2.1
      exact lv_istore hx hb hd hl hj rfl (fun ls' hl' => K _ List.mem_cons_self ν ws tys H locs ls' _ (fun _ _ => rfl) ((hG.stk h2).put hm h1 hl'))
    · cases h
  · split at h
    · rename_i hj
      cases h
      obtain ⟨v, vs', rfl, h1, h2⟩ := hG.gs.pop
      obtain ⟨lv, hl, hm⟩ := hG.2.1
      rcases ck_refs hj.2 h1 with rfl | ⟨a, rfl⟩
      · exact lv_astore_nN hx hb hd rfl hl hj.1 rfl (fun ls' hl' => K _ List.mem_cons_self ν ws tys H locs ls' _ (fun _ _ => rfl) ((hG.stk h2).put hm h1 hl'))
      · exact lv_astore_n hx hb hd rfl hl hj.1 rfl (fun ls' hl' => K _ List.mem_cons_self ν ws tys H locs ls' _ (fun _ _ => rfl) ((hG.stk h2).put hm h1 hl'))
    · cases h
  · split at h
    · rename_i hj
      cases h
      obtain ⟨v, vs', rfl, h1, h2⟩ := hG.gs.pop
      obtain ⟨lv, hl, hm⟩ := hG.2.1
      rcases ck_refs hj.2 h1 with rfl | ⟨a, rfl⟩
      · exact lv_astoreN hx hb hd hl hj.1 rfl (fun ls' hl' => K _ List.mem_cons_self ν ws tys H locs ls' _ (fun _ _ => rfl) ((hG.stk h2).put hm h1 hl'))
      · exact lv_astore hx hb hd hl hj.1 rfl (fun ls' hl' => K _ List.mem_cons_self ν ws tys H locs ls' _ (fun _ _ => rfl) ((hG.stk h2).put hm h1 hl'))
    · cases h
  · split at h
    · rename_i f hg
      split at h
      · rename_i hj
        cases h
        obtain ⟨lv, hl, hm⟩ := hG.2.1
        obtain ⟨v, h1, w, x, rfl, h3⟩ := hm _ (ck_get_mem hg)
        obtain ⟨k, hk⟩ := List.getElem?_of_mem h1
        obtain ⟨ν', a1, a2, a3, a4, a5⟩ := ck_add_ok (y := Int32.ofInt _) hG.gi w (Or.inl rfl) h3 (show (Int32.ofInt _).toInt = ck_ev ν (ck_k _) by simp only [ck_ev, ck_k, Int.zero_mul, Int.zero_add]; rfl)
        refine lv_iinc hx hb hd hl hk rfl hj rfl (fun ls' hl' => K _ List.mem_cons_self ν' ws tys H locs ls' _ (fun j hj => a1 j (by omega)) ?_)
        have hG' := hG.grow a1 a2 a3
        exact hG'.put (fun q hq => by obtain ⟨v, b1, b2⟩ := hm q hq; exact ⟨v, b1, b2.on ck_on.rf a2 a1⟩) ⟨a4, _, rfl, a5.symm⟩ hl'
      · cases h
    · cases h
  · cases h
/-- numbers of two -/
def ck_bop (i : Instr) : Option ((Int32 → Int32 → Int32) × (List ck_I → ck_L → ck_L → List ck_I × ck_L)) := match i with
  | .iadd => some (fun x y => x + y, ck_add)
  | .isub => some (fun x y => x - y, ck_sub)
  | .imul => some (fun x y => x * y, ck_mul)
  | .iand => some (fun x y => x &&& y, ck_and)
  | .ior => some (fun x y => x ||| y, ck_or)
  | .ixor => some (fun x y => x ^^^ y, ck_xor)
  | .ishl => some (fun x y => x <<< (y &&& 31), ck_shl)
  | .ishr => some (fun x y => x >>> (y &&& 31), ck_shr)
  | .iushr => some (fun x y => (x.toUInt32 >>> (y.toUInt32 &&& Int32.toUInt32 31)).toInt32, ck_ushr)
  | _ => none
theorem ck_bop_ok {i : Instr} {o : Int32 → Int32 → Int32} {g : List ck_I → ck_L → ck_L → List ck_I × ck_L} (h : ck_bop i = some (o, g)) {f f' : ck_L} {x y : Int32} (hi : ck_gi ν I) (wf : ck_wf I.length f) (wg : ck_wf I.length f') (hx : x.toInt = ck_ev ν f) (hy : y.toInt = ck_ev ν f') : ck_res ν I (g I f f').1 (g I f f').2 (o x y).toInt := by
  unfold ck_bop at h
  split at h <;> cases h
  · exact ck_add_ok hi wf wg hx hy
  · exact ck_sub_ok hi wf wg hx hy
  · exact ck_mul_ok hi wf wg hx hy
  · exact ck_and_ok hi wf wg hx hy
  · exact ck_or_ok hi hx hy
  · exact ck_xor_ok hi hx hy
  · exact ck_shl_ok hi hx hy
  · exact ck_shr_ok hi hx hy
  · exact ck_ushr_ok hi hx hy
theorem ck_bop_row {i : Instr} {o : Int32 → Int32 → Int32} {g : List ck_I → ck_L → ck_L → List ck_I × ck_L} (h : ck_bop i = some (o, g)) (hx : p.tables.exec = Jvm.exec) (hb : c.code = cc) (hd : decode cc pc = .ok (i, 1)) {x y : Int32} (K : W p l e R s m args below meth c H locs mc ms Q (F0 m (pc + 1) ls (.int (o x y) :: vs))) : W p l e R s m args below meth c H locs mc ms Q (F0 m pc ls (.int y :: .int x :: vs)) := by
  unfold ck_bop at h
  split at h <;> cases h
  · exact lv_iadd hx hb hd K
  · exact lv_isub hx hb hd K
  · exact lv_imul hx hb hd K
  · exact lv_iand hx hb hd K
  · exact lv_ior hx hb hd K
  · exact lv_ixor hx hb hd K
  · exact lv_ishl hx hb hd K
  · exact lv_ishr hx hb hd K
  · exact lv_iushr hx hb hd rfl K
/-- x to a byte -/
def ck_i2b (I : List ck_I) (f : ck_L) : List ck_I × ck_L := let a := ck_rng I f; if -128 ≤ a.1 ∧ a.2 ≤ 127 then (I, f) else ck_btw I (-128) 127
theorem ck_byteI {x : Int32} (h1 : -128 ≤ x.toInt) (h2 : x.toInt ≤ 127) : x.toInt8.toInt32 = x := by
  apply Int32.toInt_inj.mp
  rw [Int8.toInt_toInt32, Int32.toInt_toInt8]
  exact Int.bmod_eq_of_le_mul_two (by omega) (by omega)
theorem ck_byteR (x : Int32) : -128 ≤ x.toInt8.toInt32.toInt ∧ x.toInt8.toInt32.toInt ≤ 127 := by
  rw [Int8.toInt_toInt32]
  have h1 := x.toInt8.le_toInt
  have h2 := x.toInt8.toInt_lt
  omega
theorem ck_i2b_ok {f : ck_L} {x : Int32} (hi : ck_gi ν I) (wf : ck_wf I.length f) (hx : x.toInt = ck_ev ν f) : ck_res ν I (ck_i2b I f).1 (ck_i2b I f).2 x.toInt8.toInt32.toInt := by
  have rx := ck_rng32 hi hx
  unfold ck_i2b
  dsimp only
  split
  · rename_i hc
    rw [ck_byteI (by omega) (by omega)]
    exact ck_same hi wf hx.symm
  · exact ck_btw_ok hi (ck_byteR x).1 (ck_byteR x).2
def ck_c (pc : Nat) (i : Instr × Nat) (I : List ck_I) (L : List (Nat × ck_V)) (S : List ck_V) (X : ck_D) (k : Nat × Nat × Nat) : Option (List (Nat × ck_S)) := match i, S with
  | (.idiv, 1), .inl g :: .inl f :: S => if 1 ≤ (ck_rng I g).1 then let r := ck_div I f g; some [(pc + 1, (r.1, L, .inl r.2 :: S, X, k))] else none
  | (.irem, 1), .inl g :: .inl f :: S => if 1 ≤ (ck_rng I g).1 then let r := ck_rem I f g; some [(pc + 1, (r.1, L, .inl r.2 :: S, X, k))] else none
  | (.ineg, 1), .inl f :: S => let r := ck_neg I f; some [(pc + 1, (r.1, L, .inl r.2 :: S, X, k))]
  | (.i2b, 1), .inl f :: S => let r := ck_i2b I f; some [(pc + 1, (r.1, L, .inl r.2 :: S, X, k))]
  | (j, 1), .inl g :: .inl f :: S => match ck_bop j with
    | some o => let r := o.2 I f g; some [(pc + 1, (r.1, L, .inl r.2 :: S, X, k))]
    | none => none
  | _, _ => none
theorem ck_c_ok {i : Instr × Nat} {xs : List (Nat × ck_S)} (hx : p.tables.exec = Jvm.exec) (hb : c.code = cc) (hd : decode cc pc = .ok i) (h : ck_c pc i I L S X (nc, mc, ms) = some xs) (hn : n ≤ I.length) (hG : ck_G D cl st sh A s nL wr ws0 I L S X nc ν ws tys H locs ls vs)
    (K : ∀ x ∈ xs, ck_N p l e R s m args below meth c Q D cl st sh A nL wr ws0 n ν x) : W p l e R s m args below meth c H locs mc ms Q (F0 m pc ls vs) := by
  unfold ck_c at h
  split at h
  · split at h
    · rename_i hp
      cases h
      obtain ⟨v, vs', rfl, ⟨w1, y, rfl, e1⟩, h2⟩ := hG.gs.pop
      obtain ⟨v, vs', rfl, ⟨w2, x, rfl, e2⟩, h4⟩ := h2.pop
      have hy := (ck_rng32 hG.gi e1).1
      exact lv_idiv hx hb hd (fun q => by rw [q] at hy; have : (0 : Int32).toInt = 0 := rfl; omega) (ck_pushv (hG.stk h4) hn (ck_div_ok hG.gi e2 e1 (by omega)) (K _ List.mem_cons_self))
    · cases h
  · split at h
    · rename_i hp
      cases h
      obtain ⟨v, vs', rfl, ⟨w1, y, rfl, e1⟩, h2⟩ := hG.gs.pop
      obtain ⟨v, vs', rfl, ⟨w2, x, rfl, e2⟩, h4⟩ := h2.pop
      have hy := (ck_rng32 hG.gi e1).1
      exact lv_irem hx hb hd (fun q => by rw [q] at hy; have : (0 : Int32).toInt = 0 := rfl; omega) (ck_pushv (hG.stk h4) hn (ck_rem_ok hG.gi e2 e1 (by omega)) (K _ List.mem_cons_self))
    · cases h
  · cases h
    obtain ⟨v, vs', rfl, ⟨w1, x, rfl, e1⟩, h2⟩ := hG.gs.pop
    exact lv_ineg hx hb hd (ck_pushv (hG.stk h2) hn (ck_neg_ok hG.gi w1 e1) (K _ List.mem_cons_self))
  · cases h
    obtain ⟨v, vs', rfl, ⟨w1, x, rfl, e1⟩, h2⟩ := hG.gs.pop
    exact lv_i2b hx hb hd rfl (ck_pushv (hG.stk h2) hn (ck_i2b_ok hG.gi w1 e1) (K _ List.mem_cons_self))
  · split at h
    · rename_i o ho
      cases h
      obtain ⟨v, vs', rfl, ⟨w1, y, rfl, e1⟩, h2⟩ := hG.gs.pop
      obtain ⟨v, vs', rfl, ⟨w2, x, rfl, e2⟩, h4⟩ := h2.pop
      exact ck_bop_row ho hx hb hd (ck_pushv (hG.stk h4) hn (ck_bop_ok ho hG.gi w2 w1 e2 e1) (K _ List.mem_cons_self))
    · cases h
  · cases h
/-- the stack's own -/
def ck_d (pc : Nat) (i : Instr × Nat) (I : List ck_I) (L : List (Nat × ck_V)) (S : List ck_V) (X : ck_D) (k : Nat × Nat × Nat) : Option (List (Nat × ck_S)) := match i, S with
  | (.dup, 1), V :: S => if ck_one V = true then some [(pc + 1, (I, L, V :: V :: S, X, k))] else none
  | (.pop, 1), V :: S => if ck_one V = true then some [(pc + 1, (I, L, S, X, k))] else none
  | (.dup_x1, 1), V :: V' :: S => if ck_one V = true ∧ ck_one V' = true then some [(pc + 1, (I, L, V :: V' :: V :: S, X, k))] else none
  | (.dup2, 1), V :: V' :: S => if ck_one V = true ∧ ck_one V' = true then some [(pc + 1, (I, L, V :: V' :: V :: V' :: S, X, k))] else none
  | _, _ => none
theorem ck_d_ok {i : Instr × Nat} {xs : List (Nat × ck_S)} (hx : p.tables.exec = Jvm.exec) (hb : c.code = cc) (hd : decode cc pc = .ok i) (h : ck_d pc i I L S X (nc, mc, ms) = some xs) (hG : ck_G D cl st sh A s nL wr ws0 I L S X nc ν ws tys H locs ls vs)
    (K : ∀ x ∈ xs, ck_N p l e R s m args below meth c Q D cl st sh A nL wr ws0 n ν x) : W p l e R s m args below meth c H locs mc ms Q (F0 m pc ls vs) := by
  unfold ck_d at h
  split at h
  · split at h
    · rename_i ho
      cases h
      obtain ⟨v, vs', rfl, h1, h2⟩ := hG.gs.pop
      exact lv_dup hx hb hd (ck_one_cat ho h1) (K _ List.mem_cons_self ν ws tys H locs ls _ (fun _ _ => rfl) (hG.stk ⟨h1, h1, h2⟩))
    · cases h
  · split at h
    · rename_i ho
      cases h
      obtain ⟨v, vs', rfl, h1, h2⟩ := hG.gs.pop
      exact lv_pop hx hb hd (ck_one_cat ho h1) (K _ List.mem_cons_self ν ws tys H locs ls _ (fun _ _ => rfl) (hG.stk h2))
    · cases h
  · split at h
    · rename_i ho
      cases h
      obtain ⟨v, vs', rfl, h1, h2⟩ := hG.gs.pop
      obtain ⟨v', vs', rfl, h3, h4⟩ := h2.pop
      exact lv_dup_x1 hx hb hd (ck_one_cat ho.1 h1) (ck_one_cat ho.2 h3) (K _ List.mem_cons_self ν ws tys H locs ls _ (fun _ _ => rfl) (hG.stk ⟨h1, h3, h1, h4⟩))
    · cases h
  · split at h
    · rename_i ho
      cases h
      obtain ⟨v, vs', rfl, h1, h2⟩ := hG.gs.pop
      obtain ⟨v', vs', rfl, h3, h4⟩ := h2.pop
      exact lv_dup2_11 hx hb hd (ck_one_cat ho.1 h1) (ck_one_cat ho.2 h3) (K _ List.mem_cons_self ν ws tys H locs ls _ (fun _ _ => rfl) (hG.stk ⟨h1, h3, h1, h3, h4⟩))
    · cases h
  · cases h
end CKA
