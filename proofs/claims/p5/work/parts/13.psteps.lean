/-! THE PURE MACHINE, 2: steps that leave the cells as they are -/
section MMA
variable {p : Program} {l : Launch} {e : Env} {R : Room} {s : State} {m : MethodId} {args : Array Value} {below : List Frame} {meth : Method} {c : Code} {Q : State → Prop}
variable {cc : ByteArray} {D : va_G} {cl : List vw_C} {dt : List (List FieldType)} {st : Nat → Nat} {A : Nat → Prop} {nL n0 : Nat} {a0 : Nat → Nat}
/-- the real machine is as the pure one -/
def mm_G (D : va_G) (cl : List vw_C) (dt : List (List FieldType)) (st : Nat → Nat) (A : Nat → Prop) (s : State) (nL n0 : Nat) (a0 : Nat → Nat) (L : List (Nat × mm_v)) (S : List mm_v) (h : mm_h) (a : Nat → Nat) (ws : va_W) (tys : List (ClassId × FieldType)) (H : Heap) (locs : List Loc) (ls : Array Slot) (vs : List Value) : Prop :=
  mm_R dt tys a h ws ∧ (∃ lv : List (Nat × Value), lv_has ls nL lv ∧ ∀ q ∈ L, (q.1, mm_val a st q.2) ∈ lv ∧ mm_in h.1 q.2) ∧ vs = S.map (mm_val a st) ∧ (∀ v ∈ S, mm_in h.1 v) ∧ va_K D cl tys s ∧ va_P D cl ws H ∧ va_D A ws ∧ va_S A s.heap H locs ∧ n0 ≤ h.1 ∧ ∀ i, i < n0 → a i = a0 i
/-- from the place x on all goes well -/
def mm_K (p : Program) (l : Launch) (e : Env) (R : Room) (s : State) (m : MethodId) (args : Array Value) (below : List Frame) (meth : Method) (c : Code) (Q : State → Prop) (D : va_G) (cl : List vw_C) (dt : List (List FieldType)) (st : Nat → Nat) (A : Nat → Prop) (nL n0 : Nat) (a0 : Nat → Nat) (x : mm_s) : Prop :=
  ∀ (a : Nat → Nat) (ws : va_W) (tys : List (ClassId × FieldType)) (H : Heap) (locs : List Loc) (ls : Array Slot) (vs : List Value), mm_G D cl dt st A s nL n0 a0 x.2.1 x.2.2.1 x.2.2.2.1 a ws tys H locs ls vs → W p l e R s m args below meth c H locs x.2.2.2.2.1 x.2.2.2.2.2 Q (F0 m x.1 ls vs)
variable {L : List (Nat × mm_v)} {S S' : List mm_v} {h : mm_h} {mc ms : Nat} {a : Nat → Nat} {ws : va_W} {tys : List (ClassId × FieldType)} {H : Heap} {locs : List Loc} {ls : Array Slot} {vs : List Value} {pc : Nat} {N : mm_s → Prop}
theorem mm_G.stk (hG : mm_G D cl dt st A s nL n0 a0 L S h a ws tys H locs ls vs) (hS : ∀ v ∈ S', mm_in h.1 v) : mm_G D cl dt st A s nL n0 a0 L S' h a ws tys H locs ls (S'.map (mm_val a st)) := by
  obtain ⟨h1, h2, h3, h4, h5⟩ := hG
  exact ⟨h1, h2, rfl, hS, h5⟩
theorem mm_G.get {j : Nat} {v : mm_v} (hG : mm_G D cl dt st A s nL n0 a0 L S h a ws tys H locs ls vs) (hj : mm_get L j = some v) : ls[j]? = some (.val (mm_val a st v)) ∧ mm_in h.1 v := by
  obtain ⟨-, ⟨lv, h1, h2⟩, -⟩ := hG
  obtain ⟨h3, h4⟩ := h2 _ (mm_get_mem hj)
  exact ⟨h1.2.2 _ h3, h4⟩
theorem mm_G.evs (hG : mm_G D cl dt st A s nL n0 a0 L S h a ws tys H locs ls vs) : vs = S.map (mm_val a st) := hG.2.2.1
theorem mm_G.ins (hG : mm_G D cl dt st A s nL n0 a0 L S h a ws tys H locs ls vs) : ∀ v ∈ S, mm_in h.1 v := hG.2.2.2.1
theorem mm_G.tl {v : mm_v} (hG : mm_G D cl dt st A s nL n0 a0 L (v :: S) h a ws tys H locs ls vs) : mm_G D cl dt st A s nL n0 a0 L S h a ws tys H locs ls (S.map (mm_val a st)) := hG.stk (fun w hw => hG.ins w (List.mem_cons_of_mem _ hw))
theorem mm_G.tl2 {v w : mm_v} (hG : mm_G D cl dt st A s nL n0 a0 L (v :: w :: S) h a ws tys H locs ls vs) : mm_G D cl dt st A s nL n0 a0 L S h a ws tys H locs ls (S.map (mm_val a st)) := hG.tl.tl
theorem mm_G.psh {v : mm_v} (hG : mm_G D cl dt st A s nL n0 a0 L S h a ws tys H locs ls (S.map (mm_val a st))) (hv : mm_in h.1 v) : mm_G D cl dt st A s nL n0 a0 L (v :: S) h a ws tys H locs ls (mm_val a st v :: S.map (mm_val a st)) := hG.stk (fun w hw => by
  rcases List.mem_cons.mp hw with rfl | hw
  · exact hv
  · exact hG.ins w hw)
theorem mm_G.put {j : Nat} {v : mm_v} {lv : List (Nat × Value)} {ls' : Array Slot} (hG : mm_G D cl dt st A s nL n0 a0 L S h a ws tys H locs ls vs) (h2 : ∀ q ∈ L, (q.1, mm_val a st q.2) ∈ lv ∧ mm_in h.1 q.2) (hv : mm_in h.1 v) (hl : lv_has ls' nL ((j, mm_val a st v) :: lv.filter (fun q => !(q.1 == j) && !(q.1 + 1 == j && q.2.category == 2)))) : mm_G D cl dt st A s nL n0 a0 (mm_put L j v) S h a ws tys H locs ls' vs := by
  obtain ⟨g1, -, g3⟩ := hG
  refine ⟨g1, ⟨_, hl, fun q hq => ?_⟩, g3⟩
  rcases List.mem_cons.mp hq with rfl | hq
  · exact ⟨List.mem_cons_self, hv⟩
  · obtain ⟨q1, q2⟩ := List.mem_filter.mp hq
    obtain ⟨q3, q4⟩ := h2 q q1
    refine ⟨List.mem_cons_of_mem _ (List.mem_filter.mpr ⟨q3, ?_⟩), q4⟩
    dsimp only
    rw [mm_val_two]
    exact q2
theorem mm_G.put2 {j : Nat} {v : mm_v} {lv : List (Nat × Value)} {ls' : Array Slot} (hG : mm_G D cl dt st A s nL n0 a0 L S h a ws tys H locs ls vs) (h2 : ∀ q ∈ L, (q.1, mm_val a st q.2) ∈ lv ∧ mm_in h.1 q.2) (hv : mm_in h.1 v) (hl : lv_has ls' nL ((j, mm_val a st v) :: lv.filter (fun q => !(q.1 == j) && (!(q.1 == j + 1) && !(q.1 + 1 == j && q.2.category == 2))))) : mm_G D cl dt st A s nL n0 a0 (mm_put2 L j v) S h a ws tys H locs ls' vs := by
  obtain ⟨g1, -, g3⟩ := hG
  refine ⟨g1, ⟨_, hl, fun q hq => ?_⟩, g3⟩
  rcases List.mem_cons.mp hq with rfl | hq
  · exact ⟨List.mem_cons_self, hv⟩
  · obtain ⟨q1, q2⟩ := List.mem_filter.mp hq
    obtain ⟨q3, q4⟩ := h2 q q1
    refine ⟨List.mem_cons_of_mem _ (List.mem_filter.mpr ⟨q3, ?_⟩), q4⟩
    dsimp only
    rw [mm_val_two]
    exact q2
/-- constants and loads -/
def mm_a (pc : Nat) (i : Instr × Nat) (L : List (Nat × mm_v)) (S : List mm_v) (h : mm_h) (k : Nat × Nat) (N : mm_s → Prop) : Prop := match i with
  | (.iconst z, 1) => N (pc + 1, L, mm_I (Int32.ofInt z) :: S, h, k)
  | (.bipush z, 2) => N (pc + 2, L, mm_I (Int8.ofInt z).toInt32 :: S, h, k)
  | (.sipush z, 3) => N (pc + 3, L, mm_I (Int16.ofInt z).toInt32 :: S, h, k)
  | (.lconst z, 1) => N (pc + 1, L, mm_J (Int64.ofNat z.val) :: S, h, k)
  | (.aconst_null, 1) => N (pc + 1, L, mm_A none :: S, h, k)
  | (.iload_n j, 1) => ∃ x, mm_get L j.val = some (mm_I x) ∧ N (pc + 1, L, mm_I x :: S, h, k)
  | (.iload j, 2) => ∃ x, mm_get L j = some (mm_I x) ∧ N (pc + 2, L, mm_I x :: S, h, k)
  | (.lload_n j, 1) => ∃ x, mm_get L j.val = some (mm_J x) ∧ N (pc + 1, L, mm_J x :: S, h, k)
  | (.lload j, 2) => ∃ x, mm_get L j = some (mm_J x) ∧ N (pc + 2, L, mm_J x :: S, h, k)
  | (.aload_n j, 1) => ∃ v, mm_get L j.val = some v ∧ mm_rf v = true ∧ N (pc + 1, L, v :: S, h, k)
  | (.aload j, 2) => ∃ v, mm_get L j = some v ∧ mm_rf v = true ∧ N (pc + 2, L, v :: S, h, k)
  | _ => False
theorem mm_a_ok {i : Instr × Nat} (hx : p.tables.exec = Jvm.exec) (hb : c.code = cc) (hd : decode cc pc = .ok i) (hi : mm_a pc i L S h (mc, ms) N) (hG : mm_G D cl dt st A s nL n0 a0 L S h a ws tys H locs ls vs) (K : ∀ x, N x → mm_K p l e R s m args below meth c Q D cl dt st A nL n0 a0 x) : W p l e R s m args below meth c H locs mc ms Q (F0 m pc ls vs) := by
  have ev := hG.evs
  subst ev
  unfold mm_a at hi
  split at hi
  · exact lv_iconst hx hb hd rfl (K _ hi a ws tys H locs ls _ (hG.psh trivial))
  · exact lv_bipush hx hb hd rfl (K _ hi a ws tys H locs ls _ (hG.psh trivial))
  · exact lv_sipush hx hb hd rfl (K _ hi a ws tys H locs ls _ (hG.psh trivial))
  · exact lv_lconst hx hb hd rfl (K _ hi a ws tys H locs ls _ (hG.psh trivial))
  · exact lv_null hx hb hd (K _ hi a ws tys H locs ls _ (hG.psh (v := mm_A none) trivial))
  · obtain ⟨x, h1, h2⟩ := hi
    exact lv_iload_n hx hb hd rfl (hG.get h1).1 (K _ h2 a ws tys H locs ls _ (hG.psh trivial))
  · obtain ⟨x, h1, h2⟩ := hi
    exact lv_iload hx hb hd (hG.get h1).1 (K _ h2 a ws tys H locs ls _ (hG.psh trivial))
  · obtain ⟨x, h1, h2⟩ := hi
    exact lv_lload_n hx hb hd rfl (hG.get h1).1 (K _ h2 a ws tys H locs ls _ (hG.psh trivial))
  · obtain ⟨x, h1, h2⟩ := hi
    exact lv_lload hx hb hd (hG.get h1).1 (K _ h2 a ws tys H locs ls _ (hG.psh trivial))
  · obtain ⟨v, h1, h2, h3⟩ := hi
    obtain ⟨g1, g2⟩ := hG.get h1
    have kk := K _ h3 a ws tys H locs ls _ (hG.psh g2)
    rcases mm_rf_cases (a := a) (st := st) h2 with q | ⟨b, q⟩
    · rw [q] at g1 kk; exact lv_aload_nN hx hb hd rfl g1 kk
    · rw [q] at g1 kk; exact lv_aload_n hx hb hd rfl g1 kk
  · obtain ⟨v, h1, h2, h3⟩ := hi
    obtain ⟨g1, g2⟩ := hG.get h1
    have kk := K _ h3 a ws tys H locs ls _ (hG.psh g2)
    rcases mm_rf_cases (a := a) (st := st) h2 with q | ⟨b, q⟩
    · rw [q] at g1 kk; exact lv_aloadN hx hb hd g1 kk
    · rw [q] at g1 kk; exact lv_aload hx hb hd g1 kk
  · exact hi.elim
/-- stores -/
def mm_b (nL : Nat) (pc : Nat) (i : Instr × Nat) (L : List (Nat × mm_v)) (S : List mm_v) (h : mm_h) (k : Nat × Nat) (N : mm_s → Prop) : Prop := match i, S with
  | (.istore_n j, 1), .inl x :: S => j.val < nL ∧ N (pc + 1, mm_put L j.val (mm_I x), S, h, k)
  | (.istore j, 2), .inl x :: S => j < nL ∧ N (pc + 2, mm_put L j (mm_I x), S, h, k)
  | (.lstore_n j, 1), .inr (.inl x) :: S => j.val + 1 < nL ∧ N (pc + 1, mm_put2 L j.val (mm_J x), S, h, k)
  | (.lstore j, 2), .inr (.inl x) :: S => j + 1 < nL ∧ N (pc + 2, mm_put2 L j (mm_J x), S, h, k)
  | (.astore_n j, 1), v :: S => j.val < nL ∧ mm_rf v = true ∧ N (pc + 1, mm_put L j.val v, S, h, k)
  | (.astore j, 2), v :: S => j < nL ∧ mm_rf v = true ∧ N (pc + 2, mm_put L j v, S, h, k)
  | (.iinc j z, 3), S => j < nL ∧ ∃ x, mm_get L j = some (mm_I x) ∧ N (pc + 3, mm_put L j (mm_I (x + Int32.ofInt z)), S, h, k)
  | _, _ => False
theorem mm_b_ok {i : Instr × Nat} (hx : p.tables.exec = Jvm.exec) (hb : c.code = cc) (hd : decode cc pc = .ok i) (hi : mm_b nL pc i L S h (mc, ms) N) (hG : mm_G D cl dt st A s nL n0 a0 L S h a ws tys H locs ls vs) (K : ∀ x, N x → mm_K p l e R s m args below meth c Q D cl dt st A nL n0 a0 x) : W p l e R s m args below meth c H locs mc ms Q (F0 m pc ls vs) := by
  have ev := hG.evs
  subst ev
  obtain ⟨lv, hl, hm⟩ := hG.2.1
  unfold mm_b at hi
  split at hi
  · exact lv_istore_n hx hb hd rfl hl hi.1 rfl (fun ls' hl' => K _ hi.2 a ws tys H locs ls' _ (hG.tl.put hm trivial hl'))
  · exact lv_istore hx hb hd hl hi.1 rfl (fun ls' hl' => K _ hi.2 a ws tys H locs ls' _ (hG.tl.put hm trivial hl'))
  · exact lv_lstore_n hx hb hd rfl hl hi.1 rfl (fun ls' hl' => K _ hi.2 a ws tys H locs ls' _ (hG.tl.put2 hm trivial hl'))
  · exact lv_lstore hx hb hd hl hi.1 rfl (fun ls' hl' => K _ hi.2 a ws tys H locs ls' _ (hG.tl.put2 hm trivial hl'))
  · obtain ⟨h1, h2, h3⟩ := hi
    have hv := hG.ins _ List.mem_cons_self
    rcases mm_rf_cases (a := a) (st := st) h2 with q | ⟨b, q⟩
    · rw [List.map_cons, q]
      exact lv_astore_nN hx hb hd rfl hl h1 rfl (fun ls' hl' => K _ h3 a ws tys H locs ls' _ (hG.tl.put hm hv (by rw [q]; exact hl')))
    · rw [List.map_cons, q]
      exact lv_astore_n hx hb hd rfl hl h1 rfl (fun ls' hl' => K _ h3 a ws tys H locs ls' _ (hG.tl.put hm hv (by rw [q]; exact hl')))
  · obtain ⟨h1, h2, h3⟩ := hi
    have hv := hG.ins _ List.mem_cons_self
    rcases mm_rf_cases (a := a) (st := st) h2 with q | ⟨b, q⟩
    · rw [List.map_cons, q]
      exact lv_astoreN hx hb hd hl h1 rfl (fun ls' hl' => K _ h3 a ws tys H locs ls' _ (hG.tl.put hm hv (by rw [q]; exact hl')))
    · rw [List.map_cons, q]
      exact lv_astore hx hb hd hl h1 rfl (fun ls' hl' => K _ h3 a ws tys H locs ls' _ (hG.tl.put hm hv (by rw [q]; exact hl')))
  · obtain ⟨h1, x, h2, h3⟩ := hi
    obtain ⟨k, hk⟩ := List.getElem?_of_mem (hm _ (mm_get_mem h2)).1
    exact lv_iinc hx hb hd hl hk rfl h1 rfl (fun ls' hl' => K _ h3 a ws tys H locs ls' _ (hG.put hm trivial hl'))
  · exact hi.elim
/-- numbers -/
def mm_bop (i : Instr) : Option (Int32 → Int32 → Int32) := match i with
  | .iadd => some (fun x y => x + y)
  | .isub => some (fun x y => x - y)
  | .imul => some (fun x y => x * y)
  | .iand => some (fun x y => x &&& y)
  | .ior => some (fun x y => x ||| y)
  | .ixor => some (fun x y => x ^^^ y)
  | .ishl => some (fun x y => x <<< (y &&& 31))
  | .ishr => some (fun x y => x >>> (y &&& 31))
  | .iushr => some (fun x y => (x.toUInt32 >>> (y.toUInt32 &&& Int32.toUInt32 31)).toInt32)
  | _ => none
theorem mm_bop_row {i : Instr} {o : Int32 → Int32 → Int32} (hq : mm_bop i = some o) (hx : p.tables.exec = Jvm.exec) (hb : c.code = cc) (hd : decode cc pc = .ok (i, 1)) {x y : Int32} {us : List Value} (K : W p l e R s m args below meth c H locs mc ms Q (F0 m (pc + 1) ls (.int (o x y) :: us))) : W p l e R s m args below meth c H locs mc ms Q (F0 m pc ls (.int y :: .int x :: us)) := by
  unfold mm_bop at hq
  split at hq <;> cases hq
  · exact lv_iadd hx hb hd K
  · exact lv_isub hx hb hd K
  · exact lv_imul hx hb hd K
  · exact lv_iand hx hb hd K
  · exact lv_ior hx hb hd K
  · exact lv_ixor hx hb hd K
  · exact lv_ishl hx hb hd K
  · exact lv_ishr hx hb hd K
  · exact lv_iushr hx hb hd rfl K
def mm_c (pc : Nat) (i : Instr × Nat) (L : List (Nat × mm_v)) (S : List mm_v) (h : mm_h) (k : Nat × Nat) (N : mm_s → Prop) : Prop := match i, S with
  | (.idiv, 1), .inl y :: .inl x :: S => y ≠ 0 ∧ N (pc + 1, L, mm_I (x / y) :: S, h, k)
  | (.irem, 1), .inl y :: .inl x :: S => y ≠ 0 ∧ N (pc + 1, L, mm_I (x - x / y * y) :: S, h, k)
  | (.ineg, 1), .inl x :: S => N (pc + 1, L, mm_I (-x) :: S, h, k)
  | (.i2b, 1), .inl x :: S => N (pc + 1, L, mm_I x.toInt8.toInt32 :: S, h, k)
  | (.i2l, 1), .inl x :: S => N (pc + 1, L, mm_J x.toInt64 :: S, h, k)
  | (.l2i, 1), .inr (.inl x) :: S => N (pc + 1, L, mm_I x.toInt32 :: S, h, k)
  | (.ladd, 1), .inr (.inl y) :: .inr (.inl x) :: S => N (pc + 1, L, mm_J (x + y) :: S, h, k)
  | (.lsub, 1), .inr (.inl y) :: .inr (.inl x) :: S => N (pc + 1, L, mm_J (x - y) :: S, h, k)
  | (.lmul, 1), .inr (.inl y) :: .inr (.inl x) :: S => N (pc + 1, L, mm_J (x * y) :: S, h, k)
  | (.ldiv, 1), .inr (.inl y) :: .inr (.inl x) :: S => y ≠ 0 ∧ N (pc + 1, L, mm_J (x / y) :: S, h, k)
  | (.lrem, 1), .inr (.inl y) :: .inr (.inl x) :: S => y ≠ 0 ∧ N (pc + 1, L, mm_J (x - x / y * y) :: S, h, k)
  | (.lcmp, 1), .inr (.inl y) :: .inr (.inl x) :: S => N (pc + 1, L, mm_I (lg_cmp x y) :: S, h, k)
  | (j, 1), .inl y :: .inl x :: S => ∃ o, mm_bop j = some o ∧ N (pc + 1, L, mm_I (o x y) :: S, h, k)
  | _, _ => False
theorem mm_c_ok {i : Instr × Nat} (hx : p.tables.exec = Jvm.exec) (hb : c.code = cc) (hd : decode cc pc = .ok i) (hi : mm_c pc i L S h (mc, ms) N) (hG : mm_G D cl dt st A s nL n0 a0 L S h a ws tys H locs ls vs) (K : ∀ x, N x → mm_K p l e R s m args below meth c Q D cl dt st A nL n0 a0 x) : W p l e R s m args below meth c H locs mc ms Q (F0 m pc ls vs) := by
  have ev := hG.evs
  subst ev
  unfold mm_c at hi
  split at hi
  · exact lv_idiv hx hb hd hi.1 (K _ hi.2 a ws tys H locs ls _ (hG.tl2.psh trivial))
  · exact lv_irem hx hb hd hi.1 (K _ hi.2 a ws tys H locs ls _ (hG.tl2.psh trivial))
  · exact lv_ineg hx hb hd (K _ hi a ws tys H locs ls _ (hG.tl.psh trivial))
  · exact lv_i2b hx hb hd rfl (K _ hi a ws tys H locs ls _ (hG.tl.psh trivial))
  · exact lv_i2l hx hb hd rfl (K _ hi a ws tys H locs ls _ (hG.tl.psh trivial))
  · exact lv_l2i hx hb hd rfl (K _ hi a ws tys H locs ls _ (hG.tl.psh trivial))
  · exact lv_ladd hx hb hd (K _ hi a ws tys H locs ls _ (hG.tl2.psh trivial))
  · exact lv_lsub hx hb hd (K _ hi a ws tys H locs ls _ (hG.tl2.psh trivial))
  · exact lv_lmul hx hb hd (K _ hi a ws tys H locs ls _ (hG.tl2.psh trivial))
  · exact lv_ldiv hx hb hd hi.1 (K _ hi.2 a ws tys H locs ls _ (hG.tl2.psh trivial))
  · exact lv_lrem hx hb hd hi.1 (K _ hi.2 a ws tys H locs ls _ (hG.tl2.psh trivial))
  · exact W.lcmp hx hb hd (K _ hi a ws tys H locs ls _ (hG.tl2.psh trivial))
  · obtain ⟨o, h1, h2⟩ := hi
    exact mm_bop_row h1 hx hb hd (K _ h2 a ws tys H locs ls _ (hG.tl2.psh trivial))
  · exact hi.elim
/-- the stack's own -/
def mm_d (pc : Nat) (i : Instr × Nat) (L : List (Nat × mm_v)) (S : List mm_v) (h : mm_h) (k : Nat × Nat) (N : mm_s → Prop) : Prop := match i, S with
  | (.dup, 1), v :: S => mm_two v = false ∧ N (pc + 1, L, v :: v :: S, h, k)
  | (.pop, 1), v :: S => mm_two v = false ∧ N (pc + 1, L, S, h, k)
  | (.dup_x1, 1), v :: w :: S => mm_two v = false ∧ mm_two w = false ∧ N (pc + 1, L, v :: w :: v :: S, h, k)
  | (.dup2, 1), v :: w :: S => mm_two v = false ∧ mm_two w = false ∧ N (pc + 1, L, v :: w :: v :: w :: S, h, k)
  | _, _ => False
theorem mm_d_ok {i : Instr × Nat} (hx : p.tables.exec = Jvm.exec) (hb : c.code = cc) (hd : decode cc pc = .ok i) (hi : mm_d pc i L S h (mc, ms) N) (hG : mm_G D cl dt st A s nL n0 a0 L S h a ws tys H locs ls vs) (K : ∀ x, N x → mm_K p l e R s m args below meth c Q D cl dt st A nL n0 a0 x) : W p l e R s m args below meth c H locs mc ms Q (F0 m pc ls vs) := by
  have ev := hG.evs
  subst ev
  unfold mm_d at hi
  split at hi
  · exact lv_dup hx hb hd (mm_val_one hi.1) (K _ hi.2 a ws tys H locs ls _ (hG.psh (hG.ins _ List.mem_cons_self)))
  · exact lv_pop hx hb hd (mm_val_one hi.1) (K _ hi.2 a ws tys H locs ls _ hG.tl)
  · have g1 := hG.ins _ List.mem_cons_self
    have g2 := hG.ins _ (List.mem_cons_of_mem _ List.mem_cons_self)
    exact lv_dup_x1 hx hb hd (mm_val_one hi.1) (mm_val_one hi.2.1) (K _ hi.2.2 a ws tys H locs ls _ (((hG.tl2.psh g1).psh g2).psh g1))
  · have g1 := hG.ins _ List.mem_cons_self
    have g2 := hG.ins _ (List.mem_cons_of_mem _ List.mem_cons_self)
    exact lv_dup2_11 hx hb hd (mm_val_one hi.1) (mm_val_one hi.2.1) (K _ hi.2.2 a ws tys H locs ls _ ((hG.psh g2).psh g1))
  · exact hi.elim
/-! branches -/
def ck_cneg (o : Jvm.ClassFile.Cond) : Jvm.ClassFile.Cond := match o with
  | .eq => .ne
  | .ne => .eq
  | .lt => .ge
  | .ge => .lt
  | .gt => .le
  | .le => .gt
def ck_chold (o : Jvm.ClassFile.Cond) (x y : Int32) : Prop := match o with
  | .eq => x.toInt = y.toInt
  | .ne => x.toInt ≠ y.toInt
  | .lt => x.toInt < y.toInt
  | .ge => y.toInt ≤ x.toInt
  | .gt => y.toInt < x.toInt
  | .le => x.toInt ≤ y.toInt
theorem ck_icmp_row {o : Jvm.ClassFile.Cond} {off : Int} {tgt : Nat} {x y : Int32} (hx : p.tables.exec = Jvm.exec) (hb : c.code = cc) (hd : decode cc pc = .ok (.if_icmp o off, 3)) (ht : (pc : Int) + off = (tgt : Int))
    (kt : ck_chold o x y → W p l e R s m args below meth c H locs mc ms Q (F0 m tgt ls vs)) (kf : ck_chold (ck_cneg o) x y → W p l e R s m args below meth c H locs mc ms Q (F0 m (pc + 3) ls vs)) : W p l e R s m args below meth c H locs mc ms Q (F0 m pc ls (.int y :: .int x :: vs)) := by
  cases o
  · exact lv_icmp_eq hx hb hd ht (fun q => kt (by rw [q]; exact rfl)) (fun q => kf (fun z => q (Int32.toInt_inj.mp z)))
  · exact lv_icmp_ne hx hb hd ht (fun q => kt (fun z => q (Int32.toInt_inj.mp z))) (fun q => kf (by rw [q]; exact rfl))
  · exact lv_icmp_lt hx hb hd ht (fun q => kt (Int32.lt_iff_toInt_lt.mp q)) (fun q => kf (Int.not_lt.mp (fun z => q (Int32.lt_iff_toInt_lt.mpr z))))
  · exact lv_icmp_ge hx hb hd ht (fun q => kt (Int32.le_iff_toInt_le.mp q)) (fun q => kf (Int.not_le.mp (fun z => q (Int32.le_iff_toInt_le.mpr z))))
  · exact lv_icmp_gt hx hb hd ht (fun q => kt (Int32.lt_iff_toInt_lt.mp q)) (fun q => kf (Int.not_lt.mp (fun z => q (Int32.lt_iff_toInt_lt.mpr z))))
  · exact lv_icmp_le hx hb hd ht (fun q => kt (Int32.le_iff_toInt_le.mp q)) (fun q => kf (Int.not_le.mp (fun z => q (Int32.le_iff_toInt_le.mpr z))))
theorem ck_if_row {o : Jvm.ClassFile.Cond} {off : Int} {tgt : Nat} {x : Int32} (hx : p.tables.exec = Jvm.exec) (hb : c.code = cc) (hd : decode cc pc = .ok (.ifCond o off, 3)) (ht : (pc : Int) + off = (tgt : Int))
    (kt : ck_chold o x 0 → W p l e R s m args below meth c H locs mc ms Q (F0 m tgt ls vs)) (kf : ck_chold (ck_cneg o) x 0 → W p l e R s m args below meth c H locs mc ms Q (F0 m (pc + 3) ls vs)) : W p l e R s m args below meth c H locs mc ms Q (F0 m pc ls (.int x :: vs)) := by
  cases o
  · exact lv_if_eq hx hb hd ht (fun q => kt (by rw [q]; exact rfl)) (fun q => kf (fun z => q (Int32.toInt_inj.mp z)))
  · exact lv_if_ne hx hb hd ht (fun q => kt (fun z => q (Int32.toInt_inj.mp z))) (fun q => kf (by rw [q]; exact rfl))
  · exact lv_if_lt hx hb hd ht (fun q => kt (Int32.lt_iff_toInt_lt.mp q)) (fun q => kf (Int.not_lt.mp (fun z => q (Int32.lt_iff_toInt_lt.mpr z))))
  · exact lv_if_ge hx hb hd ht (fun q => kt (Int32.le_iff_toInt_le.mp q)) (fun q => kf (Int.not_le.mp (fun z => q (Int32.le_iff_toInt_le.mpr z))))
  · exact lv_if_gt hx hb hd ht (fun q => kt (Int32.lt_iff_toInt_lt.mp q)) (fun q => kf (Int.not_lt.mp (fun z => q (Int32.lt_iff_toInt_lt.mpr z))))
  · exact lv_if_le hx hb hd ht (fun q => kt (Int32.le_iff_toInt_le.mp q)) (fun q => kf (Int.not_le.mp (fun z => q (Int32.le_iff_toInt_le.mpr z))))
def ck_tg (pc : Nat) (off : Int) : Nat := ((pc : Int) + off).toNat
theorem ck_tg_ok {pc : Nat} {off : Int} (h : 0 ≤ (pc : Int) + off) : (pc : Int) + off = (ck_tg pc off : Int) := by unfold ck_tg; omega
def mm_e (pc : Nat) (i : Instr × Nat) (L : List (Nat × mm_v)) (S : List mm_v) (h : mm_h) (k : Nat × Nat) (N : mm_s → Prop) : Prop := match i, S with
  | (.if_icmp o off, 3), .inl y :: .inl x :: S => 0 ≤ (pc : Int) + off ∧ (ck_chold o x y → N (ck_tg pc off, L, S, h, k)) ∧ (ck_chold (ck_cneg o) x y → N (pc + 3, L, S, h, k))
  | (.ifCond o off, 3), .inl x :: S => 0 ≤ (pc : Int) + off ∧ (ck_chold o x 0 → N (ck_tg pc off, L, S, h, k)) ∧ (ck_chold (ck_cneg o) x 0 → N (pc + 3, L, S, h, k))
  | (.goto off, 3), S => 0 ≤ (pc : Int) + off ∧ N (ck_tg pc off, L, S, h, k)
  | (.ifnull off, 3), .inr (.inr (.inl r)) :: S => 0 ≤ (pc : Int) + off ∧ (r = none → N (ck_tg pc off, L, S, h, k)) ∧ (r ≠ none → N (pc + 3, L, S, h, k))
  | (.ifnonnull off, 3), .inr (.inr (.inl r)) :: S => 0 ≤ (pc : Int) + off ∧ (r ≠ none → N (ck_tg pc off, L, S, h, k)) ∧ (r = none → N (pc + 3, L, S, h, k))
  | (.tableswitch dflt lo hi offs, _), .inl x :: S => (offs.toList.length : Int) = hi - lo + 1 ∧ 0 ≤ (pc : Int) + dflt ∧ ((x.toInt < lo ∨ hi < x.toInt) → N (ck_tg pc dflt, L, S, h, k)) ∧ ∀ (j : Nat) (o : Int), offs.toList[j]? = some o → x.toInt = lo + j → 0 ≤ (pc : Int) + o ∧ N (ck_tg pc o, L, S, h, k)
  | _, _ => False
theorem mm_e_ok {i : Instr × Nat} (hx : p.tables.exec = Jvm.exec) (hb : c.code = cc) (hd : decode cc pc = .ok i) (hi : mm_e pc i L S h (mc, ms) N) (hG : mm_G D cl dt st A s nL n0 a0 L S h a ws tys H locs ls vs) (K : ∀ x, N x → mm_K p l e R s m args below meth c Q D cl dt st A nL n0 a0 x) : W p l e R s m args below meth c H locs mc ms Q (F0 m pc ls vs) := by
  have ev := hG.evs
  subst ev
  unfold mm_e at hi
  split at hi
  · obtain ⟨h0, h1, h2⟩ := hi
    exact ck_icmp_row hx hb hd (ck_tg_ok h0) (fun q => K _ (h1 q) a ws tys H locs ls _ hG.tl2) (fun q => K _ (h2 q) a ws tys H locs ls _ hG.tl2)
  · obtain ⟨h0, h1, h2⟩ := hi
    exact ck_if_row hx hb hd (ck_tg_ok h0) (fun q => K _ (h1 q) a ws tys H locs ls _ hG.tl) (fun q => K _ (h2 q) a ws tys H locs ls _ hG.tl)
  · exact lv_goto hx hb hd (ck_tg_ok hi.1) (K _ hi.2 a ws tys H locs ls _ hG)
  · rename_i r S'
    obtain ⟨h0, h1, h2⟩ := hi
    cases r with
    | none => exact lv_ifnullN hx hb hd (ck_tg_ok h0) (K _ (h1 rfl) a ws tys H locs ls _ hG.tl)
    | some j => exact lv_ifnull hx hb hd (K _ (h2 (fun z => by cases z)) a ws tys H locs ls _ hG.tl)
  · rename_i r S'
    obtain ⟨h0, h1, h2⟩ := hi
    cases r with
    | none => exact lv_ifnonnullN hx hb hd (K _ (h2 rfl) a ws tys H locs ls _ hG.tl)
    | some j => exact lv_ifnonnull hx hb hd (ck_tg_ok h0) (K _ (h1 (fun z => by cases z)) a ws tys H locs ls _ hG.tl)
  · rename_i dflt lo hi' offs len x S'
    obtain ⟨h0, h1, h2, h3⟩ := hi
    rcases Int.lt_or_le x.toInt lo with q | q
    · exact lv_tableOut hx hb hd (Or.inl q) (ck_tg_ok h1) (K _ (h2 (Or.inl q)) a ws tys H locs ls _ hG.tl)
    · rcases Int.lt_or_le hi' x.toInt with q2 | q2
      · exact lv_tableOut hx hb hd (Or.inr q2) (ck_tg_ok h1) (K _ (h2 (Or.inr q2)) a ws tys H locs ls _ hG.tl)
      · have hj : (x.toInt - lo).toNat < offs.toList.length := by omega
        have hg : offs.toList[(x.toInt - lo).toNat]? = some offs.toList[(x.toInt - lo).toNat] := List.getElem?_eq_getElem hj
        obtain ⟨g1, g2⟩ := h3 _ _ hg (by omega)
        exact lv_tableIn hx hb hd (by omega) (by omega) (by rw [← Array.getElem?_toList]; exact hg) (ck_tg_ok g1) (K _ g2 a ws tys H locs ls _ hG.tl)
  · exact hi.elim
end MMA
