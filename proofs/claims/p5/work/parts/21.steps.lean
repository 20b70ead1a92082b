/-! A RUN OF TABLES OVER THE PURE MACHINE, 2: steps that leave the cells as they are -/
section ABA
/-- the pure machine is as the table says -/
def ab_G (Gh : Nat → (Nat → Int32) → Prop) (sh : List ck_Sh) (wr : List (Nat × ab_P)) (h0 : mm_h) (I : List ck_I) (L : List (Nat × ck_V)) (S : List ck_V) (X : ab_X) (nc : Nat) (ν : Nat → Int) (Lm : List (Nat × mm_v)) (Sm : List mm_v) (h : mm_h) : Prop :=
  ck_gi ν I ∧ ab_gl ν h I.length L Lm ∧ ab_gs ν h I.length S Sm ∧ ab_gd Gh h X.1 ∧ ab_gE ν I.length h X.2 ∧ ab_sh sh nc h ∧ ab_fr wr h0 h
/-- from the place x on all goes well, whatever the old symbols grew to -/
def ab_K (Wp : mm_s → Prop) (Gh : Nat → (Nat → Int32) → Prop) (sh : List ck_Sh) (wr : List (Nat × ab_P)) (h0 : mm_h) (n : Nat) (ν : Nat → Int) (x : Nat × ab_S) : Prop :=
  ∀ (ν' : Nat → Int) (Lm : List (Nat × mm_v)) (Sm : List mm_v) (h : mm_h), (∀ j, j < n → ν' j = ν j) → ab_G Gh sh wr h0 x.2.1 x.2.2.1 x.2.2.2.1 x.2.2.2.2.1 x.2.2.2.2.2.1 ν' Lm Sm h → Wp (x.1, Lm, Sm, h, x.2.2.2.2.2.2.1, x.2.2.2.2.2.2.2)
variable {Gh : Nat → (Nat → Int32) → Prop} {sh : List ck_Sh} {wr : List (Nat × ab_P)} {h0 : mm_h} {I I' : List ck_I} {L : List (Nat × ck_V)} {S S' : List ck_V} {X : ab_X} {nc mc ms n : Nat} {ν ν' : Nat → Int} {Lm : List (Nat × mm_v)} {Sm Sm' : List mm_v} {h : mm_h} {pc nL : Nat} {Wp : mm_s → Prop}
theorem ab_G.grow (hG : ab_G Gh sh wr h0 I L S X nc ν Lm Sm h) (hν : ∀ j, j < I.length → ν' j = ν j) (hn : I.length ≤ I'.length) (hi : ck_gi ν' I') : ab_G Gh sh wr h0 I' L S X nc ν' Lm Sm h := by
  obtain ⟨h1, h2, h3, h4, h5, h6⟩ := hG
  exact ⟨hi, h2.on ab_le.rf hn hν, h3.on ab_le.rf hn hν, h4, h5.on hn hν, h6⟩
theorem ab_G.stk (hG : ab_G Gh sh wr h0 I L S X nc ν Lm Sm h) (hs : ab_gs ν h I.length S' Sm') : ab_G Gh sh wr h0 I L S' X nc ν Lm Sm' h := by
  obtain ⟨h1, h2, h3, h4⟩ := hG
  exact ⟨h1, h2, hs, h4⟩
theorem ab_G.gs (hG : ab_G Gh sh wr h0 I L S X nc ν Lm Sm h) : ab_gs ν h I.length S Sm := hG.2.2.1
theorem ab_G.gi (hG : ab_G Gh sh wr h0 I L S X nc ν Lm Sm h) : ck_gi ν I := hG.1
theorem ab_G.cut (hG : ab_G Gh sh wr h0 I L S X nc ν Lm Sm h) (hn : I'.length = I.length) (hi : ck_gi ν I') : ab_G Gh sh wr h0 I' L S X nc ν Lm Sm h := hG.grow (fun _ _ => rfl) (by omega) hi
theorem ab_G.put {V : ck_V} {v : mm_v} {j : Nat} (hG : ab_G Gh sh wr h0 I L S X nc ν Lm Sm h) (hv : ab_gv ν h I.length V v) : ab_G Gh sh wr h0 I (ab_put L j V) S X nc ν (mm_put Lm j v) Sm h := ⟨hG.1, hG.2.1.put hv, hG.2.2⟩
/-- a number that an operation gave goes on the stack -/
theorem ab_pushv {f : ck_L} {x : Int32} (hG : ab_G Gh sh wr h0 I L S X nc ν Lm Sm h) (hn : n ≤ I.length) (hr : ck_res ν I I' f x.toInt) (K : ab_K Wp Gh sh wr h0 n ν (pc, (I', L, .inl f :: S, X, nc, mc, ms))) : Wp (pc, Lm, mm_I x :: Sm, h, mc, ms) := by
  obtain ⟨ν', h1, h2, h3, h4, h5⟩ := hr
  have hG' := hG.grow h1 h2 h3
  exact K ν' Lm _ h (fun j hj => h1 j (by omega)) (hG'.stk ⟨⟨h4, x, rfl, h5.symm⟩, hG'.gs⟩)
/-- a value whose form is there goes on the stack -/
theorem ab_pushV {V : ck_V} {v : mm_v} (hG : ab_G Gh sh wr h0 I L S X nc ν Lm Sm h) (hv : ab_gv ν h I.length V v) (K : ab_K Wp Gh sh wr h0 n ν (pc, (I, L, V :: S, X, nc, mc, ms))) : Wp (pc, Lm, v :: Sm, h, mc, ms) :=
  K ν Lm _ h (fun _ _ => rfl) (hG.stk ⟨hv, hG.gs⟩)
/-- a form of which the table knows the value is that number -/
def ck_norm (I : List ck_I) (f : ck_L) : ck_L := if (ck_rng I f).1 = (ck_rng I f).2 then ck_k (ck_rng I f).1 else f
theorem ck_norm_ok {f : ck_L} {x : Int32} (hi : ck_gi ν I) (w : ck_wf I.length f) (hx : x.toInt = ck_ev ν f) : ck_wf I.length (ck_norm I f) ∧ x.toInt = ck_ev ν (ck_norm I f) := by
  have rx := ck_rng32 hi hx
  unfold ck_norm
  split
  · refine ⟨Or.inl rfl, ?_⟩
    simp only [ck_ev, ck_k, Int.zero_mul, Int.zero_add]
    omega
  · exact ⟨w, hx⟩
/-- constants and loads -/
def ab_a (pc : Nat) (i : Instr × Nat) (I : List ck_I) (L : List (Nat × ck_V)) (S : List ck_V) (X : ab_X) (k : Nat × Nat × Nat) : Option (List (Nat × ab_S)) := match i with
  | (.iconst z, 1) => some [(pc + 1, (I, L, .inl (ck_k (Int32.ofInt z).toInt) :: S, X, k))]
  | (.bipush z, 2) => some [(pc + 2, (I, L, .inl (ck_k (Int8.ofInt z).toInt32.toInt) :: S, X, k))]
  | (.sipush z, 3) => some [(pc + 3, (I, L, .inl (ck_k (Int16.ofInt z).toInt32.toInt) :: S, X, k))]
  | (.aconst_null, 1) => some [(pc + 1, (I, L, .inr (1, 0) :: S, X, k))]
  | (.iload_n j, 1) => match ck_get L j.val with
    | some (.inl f) => some [(pc + 1, (I, L, .inl (ck_norm I f) :: S, X, k))]
    | _ => none
  | (.iload j, 2) => match ck_get L j with
    | some (.inl f) => some [(pc + 2, (I, L, .inl (ck_norm I f) :: S, X, k))]
    | _ => none
  | (.aload_n j, 1) => match ck_get L j.val with
    | some (.inr q) => if ck_one (.inr q) = true then some [(pc + 1, (I, L, .inr q :: S, X, k))] else none
    | _ => none
  | (.aload j, 2) => match ck_get L j with
    | some (.inr q) => if ck_one (.inr q) = true then some [(pc + 2, (I, L, .inr q :: S, X, k))] else none
    | _ => none
  | _ => none
theorem ab_a_ok {i : Instr × Nat} {xs : List (Nat × ab_S)} (hh : ab_a pc i I L S X (nc, mc, ms) = some xs) (hn : n ≤ I.length) (hG : ab_G Gh sh wr h0 I L S X nc ν Lm Sm h) (K : ∀ x ∈ xs, ab_K Wp Gh sh wr h0 n ν x) : mm_a pc i Lm Sm h (mc, ms) Wp := by
  unfold ab_a at hh
  split at hh
  · cases hh
    exact ab_pushv hG hn (ck_k_ok hG.gi _) (K _ List.mem_cons_self)
  · cases hh
    exact ab_pushv hG hn (ck_k_ok hG.gi _) (K _ List.mem_cons_self)
  · cases hh
    exact ab_pushv hG hn (ck_k_ok hG.gi _) (K _ List.mem_cons_self)
  · cases hh
    exact ab_pushV (V := .inr (1, 0)) hG rfl (K _ List.mem_cons_self)
  · split at hh
    · rename_i hg
      cases hh
      obtain ⟨v, h1, h2⟩ := hG.2.1.get hg
      obtain ⟨w, x, rfl, h3⟩ := id h2
      exact ⟨x, h1, ab_pushV (V := .inl (ck_norm I _)) hG ⟨(ck_norm_ok hG.gi w h3).1, x, rfl, (ck_norm_ok hG.gi w h3).2⟩ (K _ List.mem_cons_self)⟩
    · cases hh
  · split at hh
    · rename_i hg
      cases hh
      obtain ⟨v, h1, h2⟩ := hG.2.1.get hg
      obtain ⟨w, x, rfl, h3⟩ := id h2
      exact ⟨x, h1, ab_pushV (V := .inl (ck_norm I _)) hG ⟨(ck_norm_ok hG.gi w h3).1, x, rfl, (ck_norm_ok hG.gi w h3).2⟩ (K _ List.mem_cons_self)⟩
    · cases hh
  · split at hh
    · rename_i hg
      split at hh
      · rename_i ho
        cases hh
        obtain ⟨v, h1, h2⟩ := hG.2.1.get hg
        exact ⟨v, h1, ck_one_rf ho h2, ab_pushV hG h2 (K _ List.mem_cons_self)⟩
      · cases hh
    · cases hh
  · split at hh
    · rename_i hg
      split at hh
      · rename_i ho
        cases hh
        obtain ⟨v, h1, h2⟩ := hG.2.1.get hg
        exact ⟨v, h1, ck_one_rf ho h2, ab_pushV hG h2 (K _ List.mem_cons_self)⟩
      · cases hh
    · cases hh
  · cases hh
/-- stores -/
def ab_b (nL : Nat) (pc : Nat) (i : Instr × Nat) (I : List ck_I) (L : List (Nat × ck_V)) (S : List ck_V) (X : ab_X) (k : Nat × Nat × Nat) : Option (List (Nat × ab_S)) := match i, S with
  | (.istore_n j, 1), .inl f :: S => if j.val < nL then some [(pc + 1, (I, ab_put L j.val (.inl f), S, X, k))] else none
  | (.istore j, 2), .inl f :: S => if j < nL then some [(pc + 2, (I, ab_put L j (.inl f), S, X, k))] else none
  | (.astore_n j, 1), .inr q :: S => if j.val < nL ∧ ck_one (.inr q) = true then some [(pc + 1, (I, ab_put L j.val (.inr q), S, X, k))] else none
  | (.astore j, 2), .inr q :: S => if j < nL ∧ ck_one (.inr q) = true then some [(pc + 2, (I, ab_put L j (.inr q), S, X, k))] else none
  | (.iinc j z, 3), S => match ck_get L j with
    | some (.inl f) => if j < nL then let r := ck_add I f (ck_k (Int32.ofInt z).toInt); some [(pc + 3, (r.1, ab_put L j (.inl r.2), S, X, k))] else none
    | _ => none
  | _, _ => none
theorem ab_b_ok {i : Instr × Nat} {xs : List (Nat × ab_S)} (hh : ab_b nL pc i I L S X (nc, mc, ms) = some xs) (hn : n ≤ I.length) (hG : ab_G Gh sh wr h0 I L S X nc ν Lm Sm h) (K : ∀ x ∈ xs, ab_K Wp Gh sh wr h0 n ν x) : mm_b nL pc i Lm Sm h (mc, ms) Wp := by
  unfold ab_b at hh
  split at hh
  · split at hh
    · rename_i hj
      cases hh
      obtain ⟨v, vs', rfl, h1, h2⟩ := hG.gs.pop
      obtain ⟨w, x, rfl, h3⟩ := id h1
      exact ⟨hj, K _ List.mem_cons_self ν _ _ h (fun _ _ => rfl) ((hG.stk h2).put h1)⟩
    · cases hh
  · split at hh
    · rename_i hj
      cases hh
      obtain ⟨v, vs', rfl, h1, h2⟩ := hG.gs.pop
      obtain ⟨w, x, rfl, h3⟩ := id h1
      exact ⟨hj, K _ List.mem_cons_self ν _ _ h (fun _ _ => rfl) ((hG.stk h2).put h1)⟩
    · cases hh
  · split at hh
    · rename_i hj
      cases hh
      obtain ⟨v, vs', rfl, h1, h2⟩ := hG.gs.pop
      exact ⟨hj.1, ck_one_rf hj.2 h1, K _ List.mem_cons_self ν _ _ h (fun _ _ => rfl) ((hG.stk h2).put h1)⟩
    · cases hh
  · split at hh
    · rename_i hj
      cases hh
      obtain ⟨v, vs', rfl, h1, h2⟩ := hG.gs.pop
      exact ⟨hj.1, ck_one_rf hj.2 h1, K _ List.mem_cons_self ν _ _ h (fun _ _ => rfl) ((hG.stk h2).put h1)⟩
    · cases hh
  · split at hh
    · rename_i f hg
      split at hh
      · rename_i hj
        cases hh
        obtain ⟨v, h1, w, x, rfl, h3⟩ := hG.2.1.get hg
        obtain ⟨ν', a1, a2, a3, a4, a5⟩ := ck_add_ok (y := Int32.ofInt _) hG.gi w (Or.inl rfl) h3 (show (Int32.ofInt _).toInt = ck_ev ν (ck_k _) by simp only [ck_ev, ck_k, Int.zero_mul, Int.zero_add]; rfl)
        refine ⟨hj, x, h1, K _ List.mem_cons_self ν' _ _ h (fun j hj => a1 j (by omega)) ?_⟩
        exact (hG.grow a1 a2 a3).put ⟨a4, _, rfl, a5.symm⟩
      · cases hh
    · cases hh
  · cases hh
/-- numbers of two -/
def ck_bop (i : Instr) : Option (List ck_I → ck_L → ck_L → List ck_I × ck_L) := match i with
  | .iadd => some ck_add
  | .isub => some ck_sub
  | .imul => some ck_mul
  | .iand => some ck_and
  | .ior => some ck_or
  | .ixor => some ck_xor
  | .ishl => some ck_shl
  | .ishr => some ck_shr
  | .iushr => some ck_ushr
  | _ => none
theorem ck_bop_ok {i : Instr} {g : List ck_I → ck_L → ck_L → List ck_I × ck_L} (hq : ck_bop i = some g) : ∃ o, mm_bop i = some o ∧ ∀ {I : List ck_I} {f f' : ck_L} {x y : Int32}, ck_gi ν I → ck_wf I.length f → ck_wf I.length f' → x.toInt = ck_ev ν f → y.toInt = ck_ev ν f' → ck_res ν I (g I f f').1 (g I f f').2 (o x y).toInt := by
  unfold ck_bop at hq
  split at hq <;> cases hq
  · exact ⟨_, rfl, fun hi wf wg hx hy => ck_add_ok hi wf wg hx hy⟩
  · exact ⟨_, rfl, fun hi wf wg hx hy => ck_sub_ok hi wf wg hx hy⟩
  · exact ⟨_, rfl, fun hi wf wg hx hy => ck_mul_ok hi wf wg hx hy⟩
  · exact ⟨_, rfl, fun hi wf wg hx hy => ck_and_ok hi wf wg hx hy⟩
  · exact ⟨_, rfl, fun hi wf wg hx hy => ck_or_ok hi hx hy⟩
  · exact ⟨_, rfl, fun hi wf wg hx hy => ck_xor_ok hi hx hy⟩
  · exact ⟨_, rfl, fun hi wf wg hx hy => ck_shl_ok hi hx hy⟩
  · exact ⟨_, rfl, fun hi wf wg hx hy => ck_shr_ok hi hx hy⟩
  · exact ⟨_, rfl, fun hi wf wg hx hy => ck_ushr_ok hi hx hy⟩
/-- x to a byte -/
def ck_i2b (I : List ck_I) (f : ck_L) : List ck_I × ck_L := let a := ck_rng I f; if -128 ≤ a.1 ∧ a.2 ≤ 127 then (I, f) else ck_btw I (-128) 127
theorem ck_byteI {x : Int32} (h1 : -128 ≤ x.toInt) (h2 : x.toInt ≤ 127) : x.toInt8.toInt32 = x := by
  apply Int32.toInt_inj.mp
  rw [Int8.toInt_toInt32, Int32.toInt_toInt8]
  exact Int.bmod_eq_of_le_mul_two (by omega) (by omega)
theorem ck_byteR (x : Int32) : -128 ≤ x.toInt8.toInt32.toInt ∧ x.toInt8.toInt32.toInt ≤ 127 := by
  rw [Int8.toInt_toInt32]
  have h1 := x.toInt8.le_toInt
  have h2 := x.toInt8.toInt_lt
  omega
theorem ck_i2b_ok {f : ck_L} {x : Int32} (hi : ck_gi ν I) (wf : ck_wf I.length f) (hx : x.toInt = ck_ev ν f) : ck_res ν I (ck_i2b I f).1 (ck_i2b I f).2 x.toInt8.toInt32.toInt := by
  have rx := ck_rng32 hi hx
  unfold ck_i2b
  dsimp only
  split
  · rename_i hc
    rw [ck_byteI (by omega) (by omega)]
    exact ck_same hi wf hx.symm
  · exact ck_btw_ok hi (ck_byteR x).1 (ck_byteR x).2
/-- the divisor is told not to be 0 -/
def ck_nz (I : List ck_I) (g : ck_L) : Bool := decide (1 ≤ (ck_rng I g).1) || decide ((ck_rng I g).2 ≤ -1)
def ab_div (I : List ck_I) (f g : ck_L) : List ck_I × ck_L := if 1 ≤ (ck_rng I g).1 then ck_div I f g else ck_full I
def ab_rem (I : List ck_I) (f g : ck_L) : List ck_I × ck_L := if 1 ≤ (ck_rng I g).1 then ck_rem I f g else ck_full I
def ab_c (pc : Nat) (i : Instr × Nat) (I : List ck_I) (L : List (Nat × ck_V)) (S : List ck_V) (X : ab_X) (k : Nat × Nat × Nat) : Option (List (Nat × ab_S)) := match i, S with
  | (.idiv, 1), .inl g :: .inl f :: S => if ck_nz I g = true then let r := ab_div I f g; some [(pc + 1, (r.1, L, .inl r.2 :: S, X, k))] else none
  | (.irem, 1), .inl g :: .inl f :: S => if ck_nz I g = true then let r := ab_rem I f g; some [(pc + 1, (r.1, L, .inl r.2 :: S, X, k))] else none
  | (.ineg, 1), .inl f :: S => let r := ck_neg I f; some [(pc + 1, (r.1, L, .inl r.2 :: S, X, k))]
  | (.i2b, 1), .inl f :: S => let r := ck_i2b I f; some [(pc + 1, (r.1, L, .inl r.2 :: S, X, k))]
  | (.iadd, 1), .inl g :: .inl f :: S => let r := ck_add I f g; some [(pc + 1, (r.1, L, .inl r.2 :: S, X, k))]
  | (.isub, 1), .inl g :: .inl f :: S => let r := ck_sub I f g; some [(pc + 1, (r.1, L, .inl r.2 :: S, X, k))]
  | (.imul, 1), .inl g :: .inl f :: S => let r := ck_mul I f g; some [(pc + 1, (r.1, L, .inl r.2 :: S, X, k))]
  | (.iand, 1), .inl g :: .inl f :: S => let r := ck_and I f g; some [(pc + 1, (r.1, L, .inl r.2 :: S, X, k))]
  | (.ior, 1), .inl g :: .inl f :: S => let r := ck_or I f g; some [(pc + 1, (r.1, L, .inl r.2 :: S, X, k))]
  | (.ixor, 1), .inl g :: .inl f :: S => let r := ck_xor I f g; some [(pc + 1, (r.1, L, .inl r.2 :: S, X, k))]
  | (.ishl, 1), .inl g :: .inl f :: S => let r := ck_shl I f g; some [(pc + 1, (r.1, L, .inl r.2 :: S, X, k))]
  | (.ishr, 1), .inl g :: .inl f :: S => let r := ck_shr I f g; some [(pc + 1, (r.1, L, .inl r.2 :: S, X, k))]
  | (.iushr, 1), .inl g :: .inl f :: S => let r := ck_ushr I f g; some [(pc + 1, (r.1, L, .inl r.2 :: S, X, k))]
  | _, _ => none
theorem ab_c_ok {i : Instr × Nat} {xs : List (Nat × ab_S)} (hh : ab_c pc i I L S X (nc, mc, ms) = some xs) (hn : n ≤ I.length) (hG : ab_G Gh sh wr h0 I L S X nc ν Lm Sm h) (K : ∀ x ∈ xs, ab_K Wp Gh sh wr h0 n ν x) : mm_c pc i Lm Sm h (mc, ms) Wp := by
  have two : ∀ {g f : ck_L} {S1 : List ck_V}, ab_gs ν h I.length (.inl g :: .inl f :: S1) Sm → ∃ y x vs', Sm = mm_I y :: mm_I x :: vs' ∧ ck_wf I.length g ∧ y.toInt = ck_ev ν g ∧ ck_wf I.length f ∧ x.toInt = ck_ev ν f ∧ ab_gs ν h I.length S1 vs' := fun hs => by
    obtain ⟨v, vs', rfl, ⟨w1, y, rfl, e1⟩, h2⟩ := hs.pop
    obtain ⟨v, vs', rfl, ⟨w2, x, rfl, e2⟩, h4⟩ := h2.pop
    exact ⟨y, x, vs', rfl, w1, e1, w2, e2, h4⟩
  have op : ∀ {j : Instr} {g : List ck_I → ck_L → ck_L → List ck_I × ck_L} {f f' : ck_L} {S1 : List ck_V}, ck_bop j = some g → ab_gs ν h I.length (.inl f' :: .inl f :: S1) Sm → ab_K Wp Gh sh wr h0 n ν (pc + 1, ((g I f f').1, L, .inl (g I f f').2 :: S1, X, nc, mc, ms)) → ∃ y x vs', Sm = mm_I y :: mm_I x :: vs' ∧ ∃ o, mm_bop j = some o ∧ Wp (pc + 1, Lm, mm_I (o x y) :: vs', h, mc, ms) := fun hj hs KK => by
    obtain ⟨y, x, vs', e, w1, e1, w2, e2, h4⟩ := two hs
    obtain ⟨o, o1, o2⟩ := ck_bop_ok (ν := ν) hj
    exact ⟨y, x, vs', e, o, o1, ab_pushv (hG.stk h4) hn (o2 hG.gi w2 w1 e2 e1) KK⟩
  have nz : ∀ {g : ck_L} {y : Int32}, ck_nz I g = true → y.toInt = ck_ev ν g → (1 ≤ (ck_rng I g).1 → 1 ≤ y.toInt) ∧ y ≠ 0 := fun hg e1 => by
    have hy := ck_rng32 hG.gi e1
    simp only [ck_nz, Bool.or_eq_true, decide_eq_true_eq] at hg
    exact ⟨fun _ => by omega, fun q => by rw [q] at hy; have : (0 : Int32).toInt = 0 := rfl; omega⟩
  have hs := hG.gs
  unfold ab_c at hh
  split at hh
  · split at hh
    · rename_i hp
      cases hh
      obtain ⟨y, x, vs', rfl, w1, e1, w2, e2, h4⟩ := two hs
      obtain ⟨hp1, hp2⟩ := nz hp e1
      refine ⟨hp2, ab_pushv (hG.stk h4) hn ?_ (K _ List.mem_cons_self)⟩
      unfold ab_div
      split
      · rename_i hq
        have := hp1 hq
        exact ck_div_ok hG.gi e2 e1 (by omega)
      · exact ck_full_ok hG.gi _
    · cases hh
  · split at hh
    · rename_i hp
      cases hh
      obtain ⟨y, x, vs', rfl, w1, e1, w2, e2, h4⟩ := two hs
      obtain ⟨hp1, hp2⟩ := nz hp e1
      refine ⟨hp2, ab_pushv (hG.stk h4) hn ?_ (K _ List.mem_cons_self)⟩
      unfold ab_rem
      split
      · rename_i hq
        have := hp1 hq
        exact ck_rem_ok hG.gi e2 e1 (by omega)
      · exact ck_full_ok hG.gi _
    · cases hh
  · cases hh
    obtain ⟨v, vs', rfl, ⟨w1, x, rfl, e1⟩, h2⟩ := hs.pop
    exact ab_pushv (hG.stk h2) hn (ck_neg_ok hG.gi w1 e1) (K _ List.mem_cons_self)
  · cases hh
    obtain ⟨v, vs', rfl, ⟨w1, x, rfl, e1⟩, h2⟩ := hs.pop
    exact ab_pushv (hG.stk h2) hn (ck_i2b_ok hG.gi w1 e1) (K _ List.mem_cons_self)
  · cases hh
    obtain ⟨y, x, vs', rfl, o, o1, o2⟩ := op (j := .iadd) rfl hs (K _ List.mem_cons_self)
    exact ⟨o, o1, o2⟩
  · cases hh
    obtain ⟨y, x, vs', rfl, o, o1, o2⟩ := op (j := .isub) rfl hs (K _ List.mem_cons_self)
    exact ⟨o, o1, o2⟩
  · cases hh
    obtain ⟨y, x, vs', rfl, o, o1, o2⟩ := op (j := .imul) rfl hs (K _ List.mem_cons_self)
    exact ⟨o, o1, o2⟩
  · cases hh
    obtain ⟨y, x, vs', rfl, o, o1, o2⟩ := op (j := .iand) rfl hs (K _ List.mem_cons_self)
    exact ⟨o, o1, o2⟩
  · cases hh
    obtain ⟨y, x, vs', rfl, o, o1, o2⟩ := op (j := .ior) rfl hs (K _ List.mem_cons_self)
    exact ⟨o, o1, o2⟩
  · cases hh
    obtain ⟨y, x, vs', rfl, o, o1, o2⟩ := op (j := .ixor) rfl hs (K _ List.mem_cons_self)
    exact ⟨o, o1, o2⟩
  · cases hh
    obtain ⟨y, x, vs', rfl, o, o1, o2⟩ := op (j := .ishl) rfl hs (K _ List.mem_cons_self)
    exact ⟨o, o1, o2⟩
  · cases hh
    obtain ⟨y, x, vs', rfl, o, o1, o2⟩ := op (j := .ishr) rfl hs (K _ List.mem_cons_self)
    exact ⟨o, o1, o2⟩
  · cases hh
    obtain ⟨y, x, vs', rfl, o, o1, o2⟩ := op (j := .iushr) rfl hs (K _ List.mem_cons_self)
    exact ⟨o, o1, o2⟩
  · cases hh
/-- the stack's own -/
def ab_d (pc : Nat) (i : Instr × Nat) (I : List ck_I) (L : List (Nat × ck_V)) (S : List ck_V) (X : ab_X) (k : Nat × Nat × Nat) : Option (List (Nat × ab_S)) := match i, S with
  | (.dup, 1), V :: S => if ck_one V = true then some [(pc + 1, (I, L, V :: V :: S, X, k))] else none
  | (.pop, 1), V :: S => if ck_one V = true then some [(pc + 1, (I, L, S, X, k))] else none
  | (.dup_x1, 1), V :: V' :: S => if ck_one V = true ∧ ck_one V' = true then some [(pc + 1, (I, L, V :: V' :: V :: S, X, k))] else none
  | (.dup2, 1), V :: V' :: S => if ck_one V = true ∧ ck_one V' = true then some [(pc + 1, (I, L, V :: V' :: V :: V' :: S, X, k))] else none
  | _, _ => none
theorem ab_d_ok {i : Instr × Nat} {xs : List (Nat × ab_S)} (hh : ab_d pc i I L S X (nc, mc, ms) = some xs) (hG : ab_G Gh sh wr h0 I L S X nc ν Lm Sm h) (K : ∀ x ∈ xs, ab_K Wp Gh sh wr h0 n ν x) : mm_d pc i Lm Sm h (mc, ms) Wp := by
  unfold ab_d at hh
  split at hh
  · split at hh
    · rename_i ho
      cases hh
      obtain ⟨v, vs', rfl, h1, h2⟩ := hG.gs.pop
      exact ⟨ck_one_two ho h1, K _ List.mem_cons_self ν _ _ h (fun _ _ => rfl) (hG.stk ⟨h1, h1, h2⟩)⟩
    · cases hh
  · split at hh
    · rename_i ho
      cases hh
      obtain ⟨v, vs', rfl, h1, h2⟩ := hG.gs.pop
      exact ⟨ck_one_two ho h1, K _ List.mem_cons_self ν _ _ h (fun _ _ => rfl) (hG.stk h2)⟩
    · cases hh
  · split at hh
    · rename_i ho
      cases hh
      obtain ⟨v, vs', rfl, h1, h2⟩ := hG.gs.pop
      obtain ⟨v', vs', rfl, h3, h4⟩ := h2.pop
      exact ⟨ck_one_two ho.1 h1, ck_one_two ho.2 h3, K _ List.mem_cons_self ν _ _ h (fun _ _ => rfl) (hG.stk ⟨h1, h3, h1, h4⟩)⟩
    · cases hh
  · split at hh
    · rename_i ho
      cases hh
      obtain ⟨v, vs', rfl, h1, h2⟩ := hG.gs.pop
      obtain ⟨v', vs', rfl, h3, h4⟩ := h2.pop
      exact ⟨ck_one_two ho.1 h1, ck_one_two ho.2 h3, K _ List.mem_cons_self ν _ _ h (fun _ _ => rfl) (hG.stk ⟨h1, h3, h1, h3, h4⟩)⟩
    · cases hh
  · cases hh
/-! branches -/
def ck_cref (o : Jvm.ClassFile.Cond) (I : List ck_I) (f g : ck_L) : Option (List ck_I) := match o with
  | .eq => ck_eq2 I f g
  | .ne => ck_ne2 I f g
  | .lt => ck_lt2 I f g
  | .ge => ck_le2 I g f
  | .gt => ck_lt2 I g f
  | .le => ck_le2 I f g
theorem ck_cref_ok {o : Jvm.ClassFile.Cond} {f g : ck_L} {x y : Int32} (h : ck_gi ν I) (hx : x.toInt = ck_ev ν f) (hy : y.toInt = ck_ev ν g) (hc : ck_chold o x y) : ∃ I', ck_cref o I f g = some I' ∧ ck_gi ν I' ∧ I'.length = I.length := by
  cases o
  · exact ck_eq2_ok h hx hy hc
  · exact ck_ne2_ok h hx hy hc
  · exact ck_lt2_ok h hx hy hc
  · exact ck_le2_ok h hy hx hc
  · exact ck_lt2_ok h hy hx hc
  · exact ck_le2_ok h hx hy hc
def ab_br (J : Option (List ck_I)) (t : Nat) (L : List (Nat × ck_V)) (S : List ck_V) (X : ab_X) (k : Nat × Nat × Nat) : List (Nat × ab_S) := match J with
  | some I => [(t, (I, L, S, X, k))]
  | none => []
theorem ab_br_ok {J : Option (List ck_I)} {t : Nat} (hG : ab_G Gh sh wr h0 I L S X nc ν Lm Sm h) (hJ : ∃ I', J = some I' ∧ ck_gi ν I' ∧ I'.length = I.length) (K : ∀ x ∈ ab_br J t L S X (nc, mc, ms), ab_K Wp Gh sh wr h0 n ν x) : Wp (t, Lm, Sm, h, mc, ms) := by
  obtain ⟨I', rfl, h1, h2⟩ := hJ
  exact K _ List.mem_cons_self ν Lm Sm h (fun _ _ => rfl) (hG.cut h2 h1)
def ab_sw (pc : Nat) (lo : Int) (I : List ck_I) (f : ck_L) (L : List (Nat × ck_V)) (S : List ck_V) (X : ab_X) (k : Nat × Nat × Nat) : Nat → List Int → List (Nat × ab_S)
  | _, [] => []
  | j, o :: os => ab_br ((ck_ge I f (lo + j)).bind fun J => ck_le J f (lo + j)) (ck_tg pc o) L S X k ++ ab_sw pc lo I f L S X k (j + 1) os
theorem ab_sw_in {lo : Int} {f : ck_L} {k : Nat × Nat × Nat} {o : Int} : ∀ (os : List Int) (b j : Nat), os[j]? = some o → ∀ x, x ∈ ab_br ((ck_ge I f (lo + ((b + j : Nat) : Int))).bind fun J => ck_le J f (lo + ((b + j : Nat) : Int))) (ck_tg pc o) L S X k → x ∈ ab_sw pc lo I f L S X k b os
  | [], _, _, h, _, _ => by simp at h
  | a :: os, b, 0, h, x, hx => by
    have e : a = o := by simpa using h
    subst e
    exact List.mem_append_left _ hx
  | a :: os, b, j + 1, h, x, hx => by
    refine List.mem_append_right _ (ab_sw_in os (b + 1) j (by simpa using h) x ?_)
    have e : b + 1 + j = b + (j + 1) := by omega
    rw [e]; exact hx
def ab_e (pc : Nat) (i : Instr × Nat) (I : List ck_I) (L : List (Nat × ck_V)) (S : List ck_V) (X : ab_X) (k : Nat × Nat × Nat) : Option (List (Nat × ab_S)) := match i, S with
  | (.if_icmp o off, 3), .inl g :: .inl f :: S => if 0 ≤ (pc : Int) + off then some (ab_br (ck_cref o I f g) (ck_tg pc off) L S X k ++ ab_br (ck_cref (ck_cneg o) I f g) (pc + 3) L S X k) else none
  | (.ifCond o off, 3), .inl f :: S => if 0 ≤ (pc : Int) + off then some (ab_br (ck_cref o I f (ck_k 0)) (ck_tg pc off) L S X k ++ ab_br (ck_cref (ck_cneg o) I f (ck_k 0)) (pc + 3) L S X k) else none
  | (.goto off, 3), S => if 0 ≤ (pc : Int) + off then some [(ck_tg pc off, (I, L, S, X, k))] else none
  | (.ifnull off, 3), .inr (1, _) :: S => if 0 ≤ (pc : Int) + off then some [(ck_tg pc off, (I, L, S, X, k))] else none
  | (.ifnull off, 3), .inr (0, _) :: S => if 0 ≤ (pc : Int) + off then some [(pc + 3, (I, L, S, X, k))] else none
  | (.ifnonnull off, 3), .inr (1, _) :: S => if 0 ≤ (pc : Int) + off then some [(pc + 3, (I, L, S, X, k))] else none
  | (.ifnonnull off, 3), .inr (0, _) :: S => if 0 ≤ (pc : Int) + off then some [(ck_tg pc off, (I, L, S, X, k))] else none
  | (.ifnonnull off, 3), .inr (3, _) :: S => if 0 ≤ (pc : Int) + off then some [(ck_tg pc off, (I, L, S, X, k)), (pc + 3, (I, L, S, X, k))] else none
  | (.tableswitch dflt lo hi offs, _), .inl f :: S => if (offs.toList.length : Int) = hi - lo + 1 ∧ 0 ≤ (pc : Int) + dflt ∧ offs.toList.all (fun o => decide (0 ≤ (pc : Int) + o)) = true then some (ab_br (ck_le I f (lo - 1)) (ck_tg pc dflt) L S X k ++ (ab_br (ck_ge I f (hi + 1)) (ck_tg pc dflt) L S X k ++ ab_sw pc lo I f L S X k 0 offs.toList)) else none
  | _, _ => none
theorem ab_e_ok {i : Instr × Nat} {xs : List (Nat × ab_S)} (hh : ab_e pc i I L S X (nc, mc, ms) = some xs) (hG : ab_G Gh sh wr h0 I L S X nc ν Lm Sm h) (K : ∀ x ∈ xs, ab_K Wp Gh sh wr h0 n ν x) : mm_e pc i Lm Sm h (mc, ms) Wp := by
  unfold ab_e at hh
  split at hh
  · split at hh
    · rename_i ho
      cases hh
      obtain ⟨v, vs', rfl, ⟨w1, y, rfl, e1⟩, h2⟩ := hG.gs.pop
      obtain ⟨v, vs', rfl, ⟨w2, x, rfl, e2⟩, h4⟩ := h2.pop
      exact ⟨ho, fun q => ab_br_ok (hG.stk h4) (ck_cref_ok hG.gi e2 e1 q) (fun x hx => K x (List.mem_append_left _ hx)), fun q => ab_br_ok (hG.stk h4) (ck_cref_ok hG.gi e2 e1 q) (fun x hx => K x (List.mem_append_right _ hx))⟩
    · cases hh
  · split at hh
    · rename_i ho
      cases hh
      obtain ⟨v, vs', rfl, ⟨w1, x, rfl, e1⟩, h2⟩ := hG.gs.pop
      have e0 : (0 : Int32).toInt = ck_ev ν (ck_k 0) := by simp [ck_ev, ck_k]
      exact ⟨ho, fun q => ab_br_ok (hG.stk h2) (ck_cref_ok hG.gi e1 e0 q) (fun x hx => K x (List.mem_append_left _ hx)), fun q => ab_br_ok (hG.stk h2) (ck_cref_ok hG.gi e1 e0 q) (fun x hx => K x (List.mem_append_right _ hx))⟩
    · cases hh
  · split at hh
    · rename_i ho
      cases hh
      exact ⟨ho, K _ List.mem_cons_self ν Lm Sm h (fun _ _ => rfl) hG⟩
    · cases hh
  · split at hh
    · rename_i ho
      cases hh
      obtain ⟨v, vs', rfl, h1, h2⟩ := hG.gs.pop
      have e1 : v = mm_A none := h1
      subst e1
      exact ⟨ho, fun _ => K _ List.mem_cons_self ν Lm _ h (fun _ _ => rfl) (hG.stk h2), fun z => absurd rfl z⟩
    · cases hh
  · split at hh
    · rename_i ho
      cases hh
      obtain ⟨v, vs', rfl, h1, h2⟩ := hG.gs.pop
      have e1 : v = mm_A (some _) := h1
      subst e1
      exact ⟨ho, (fun z => by cases z), fun _ => K _ List.mem_cons_self ν Lm _ h (fun _ _ => rfl) (hG.stk h2)⟩
    · cases hh
  · split at hh
    · rename_i ho
      cases hh
      obtain ⟨v, vs', rfl, h1, h2⟩ := hG.gs.pop
      have e1 : v = mm_A none := h1
      subst e1
      exact ⟨ho, (fun z => absurd rfl z), fun _ => K _ List.mem_cons_self ν Lm _ h (fun _ _ => rfl) (hG.stk h2)⟩
    · cases hh
  · split at hh
    · rename_i ho
      cases hh
      obtain ⟨v, vs', rfl, h1, h2⟩ := hG.gs.pop
      have e1 : v = mm_A (some _) := h1
      subst e1
      exact ⟨ho, fun _ => K _ List.mem_cons_self ν Lm _ h (fun _ _ => rfl) (hG.stk h2), fun z => by cases z⟩
    · cases hh
  · split at hh
    · rename_i ho
      cases hh
      obtain ⟨v, vs', rfl, h1, h2⟩ := hG.gs.pop
      have k1 := K _ List.mem_cons_self ν Lm _ h (fun _ _ => rfl) (hG.stk h2)
      have k2 := K _ (List.mem_cons_of_mem _ List.mem_cons_self) ν Lm _ h (fun _ _ => rfl) (hG.stk h2)
      rcases h1 with e1 | ⟨j, e1, -⟩
      · subst e1
        exact ⟨ho, fun _ => k1, fun _ => k2⟩
      · subst e1
        exact ⟨ho, fun _ => k1, fun _ => k2⟩
    · cases hh
  · split at hh
    · rename_i dflt lo hi offs len f S' ho
      obtain ⟨o1, o2, o3⟩ := ho
      cases hh
      obtain ⟨v, vs', rfl, ⟨w1, x, rfl, e1⟩, h2⟩ := hG.gs.pop
      refine ⟨o1, o2, fun q => ?_, fun j o hj hx => ?_⟩
      · rcases q with q | q
        · exact ab_br_ok (hG.stk h2) (ck_le_ok hG.gi (by omega)) (fun x hx => K x (List.mem_append_left _ hx))
        · exact ab_br_ok (hG.stk h2) (ck_ge_ok hG.gi (by omega)) (fun x hx => K x (List.mem_append_right _ (List.mem_append_left _ hx)))
      · have hlt := (List.getElem?_eq_some_iff.mp hj)
        refine ⟨of_decide_eq_true (List.all_eq_true.mp o3 _ (List.mem_of_getElem? hj)), ab_br_ok (hG.stk h2) ?_ (fun x hx => K x (List.mem_append_right _ (List.mem_append_right _ (ab_sw_in _ 0 _ hj x hx))))⟩
        obtain ⟨J, j1, j2, j3⟩ := ck_ge_ok (f := f) (c := lo + ((0 + j : Nat) : Int)) hG.gi (by rw [← e1, hx]; omega)
        obtain ⟨J2, k1, k2, k3⟩ := ck_le_ok (f := f) (c := lo + ((0 + j : Nat) : Int)) j2 (by rw [← e1, hx]; omega)
        exact ⟨J2, by rw [j1]; exact k1, k2, k3.trans j3⟩
    · cases hh
  · cases hh
end ABA
