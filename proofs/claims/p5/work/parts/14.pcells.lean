/-! THE PURE MACHINE, 3: fields, rows, what is made -/
theorem mm_R.obj {dt : List (List FieldType)} {tys : List (ClassId × FieldType)} {a : Nat → Nat} {h : mm_h} {ws : va_W} {i : Nat} {o : Nat × Nat} (hR : mm_R dt tys a h ws) (hi : i < h.1) (hs : h.2.1 i = .inl o) : ∃ (tl : List FieldType) (fs : List Value), ws[i]? = some (a i, .inr (o.1, fs)) ∧ dt[o.1]? = some tl ∧ tl.length = o.2 ∧ fs.length = o.2 ∧ ∀ (k : Nat) (t : FieldType), tl[k]? = some t → fs[k]? = some (mm_fv a (h.2.2.1 i k) (h.2.2.2 i k) t) := by
  obtain ⟨⟨e, h1, h2⟩, -⟩ := hR.2 i hi
  rw [hs] at h2
  obtain ⟨tl, fs, g1, g2, g3, g4, g5⟩ := h2
  exact ⟨tl, fs, by rw [← g4]; exact h1, g1, g2, g3, g5⟩
theorem mm_R.row {dt : List (List FieldType)} {tys : List (ClassId × FieldType)} {a : Nat → Nat} {h : mm_h} {ws : va_W} {i : Nat} {r : FieldType × Nat} (hR : mm_R dt tys a h ws) (hi : i < h.1) (hs : h.2.1 i = .inr r) : ∃ (cA : ClassId) (cn : ck_Cn) (t : Nat), ws[i]? = some (a i, .inl (cA, r.2, cn)) ∧ tys[t]? = some (cA, r.1) ∧ mm_cn a r.1 (h.2.2.1 i) (h.2.2.2 i) cn := by
  obtain ⟨⟨e, h1, h2⟩, -⟩ := hR.2 i hi
  rw [hs] at h2
  obtain ⟨cA, cn, g1, ⟨t, g2⟩, g3⟩ := h2
  exact ⟨cA, cn, t, by rw [← g1]; exact h1, g2, g3⟩
theorem mm_R.set {dt : List (List FieldType)} {tys : List (ClassId × FieldType)} {a : Nat → Nat} {h h' : mm_h} {ws : va_W} {i : Nat} {e' : va_E} (hR : mm_R dt tys a h ws) (hi : i < h.1) (hn : h'.1 = h.1) (hs : h'.2.1 = h.2.1) (hc : ∀ j, j ≠ i → h'.2.2.1 j = h.2.2.1 j ∧ h'.2.2.2 j = h.2.2.2 j) (hf : mm_fit dt tys a (h.2.1 i) (h'.2.2.1 i) (h'.2.2.2 i) e') (hr : ∀ (k j : Nat), h'.2.2.2 i k = some j → j < h.1) : mm_R dt tys a h' (ws.set i (a i, e')) := by
  refine ⟨by rw [List.length_set, hn]; exact hR.1, fun j hj => ?_⟩
  rw [hn] at hj ⊢
  rw [hs]
  by_cases hji : j = i
  · subst hji
    have hl : j < ws.length := by rw [hR.1]; exact hj
    exact ⟨⟨e', List.getElem?_set_self hl, hf⟩, hr⟩
  · obtain ⟨c1, c2⟩ := hc j hji
    rw [c1, c2, List.getElem?_set_ne (fun z => hji z.symm)]
    exact hR.2 j hj
theorem mm_R.push {dt : List (List FieldType)} {tys tys' : List (ClassId × FieldType)} {a : Nat → Nat} {h : mm_h} {ws : va_W} {S : ck_Sh} {q : Nat} {x : va_E} (hR : mm_R dt tys a h ws) (ht : ∀ (t : Nat) (y : ClassId × FieldType), tys[t]? = some y → ∃ t' : Nat, tys'[t']? = some y) (hf : mm_fit dt tys' (fun i => if i = h.1 then q else a i) S (fun _ => 0) (fun _ => none) x) : mm_R dt tys' (fun i => if i = h.1 then q else a i) (mm_new h S) (ws ++ [(q, x)]) := by
  have hag : ∀ i, i < h.1 → (fun i => if i = h.1 then q else a i) i = a i := fun i hi => if_neg (Nat.ne_of_lt hi)
  refine ⟨by show (ws ++ [(q, x)]).length = h.1 + 1; simp [hR.1], fun i hi => ?_⟩
  have hi' : i < h.1 + 1 := hi
  by_cases hq : i = h.1
  · subst hq
    refine ⟨⟨x, ?_, ?_⟩, fun k j hk => ?_⟩
    · rw [← hR.1]; simp
    · show mm_fit dt tys' _ (if h.1 = h.1 then S else h.2.1 h.1) (fun k => if h.1 = h.1 then 0 else h.2.2.1 h.1 k) (fun k => if h.1 = h.1 then none else h.2.2.2 h.1 k) x
      simp only [if_true]
      exact hf
    · have hk' : (if h.1 = h.1 then none else h.2.2.2 h.1 k) = some j := hk
      rw [if_pos rfl] at hk'
      cases hk'
  · have hlt : i < h.1 := by omega
    obtain ⟨⟨e, h1, h2⟩, h3⟩ := hR.2 i hlt
    refine ⟨⟨e, ?_, ?_⟩, fun k j hk => ?_⟩
    · rw [List.getElem?_append_left (by rw [hR.1]; exact hlt), h1]
      show _ = some ((if i = h.1 then q else a i), e)
      rw [if_neg hq]
    · show mm_fit dt tys' _ (if i = h.1 then S else h.2.1 i) (fun k => if i = h.1 then 0 else h.2.2.1 i k) (fun k => if i = h.1 then none else h.2.2.2 i k) e
      simp only [if_neg hq]
      exact h2.more ht hag h3
    · have hk' : (if i = h.1 then none else h.2.2.2 i k) = some j := hk
      rw [if_neg hq] at hk'
      exact Nat.lt_succ_of_lt (h3 k j hk')
section MMC
variable {p : Program} {l : Launch} {e : Env} {R : Room} {s : State} {m : MethodId} {args : Array Value} {below : List Frame} {meth : Method} {c : Code} {Q : State → Prop}
variable {cc : ByteArray} {D : va_G} {cl : List vw_C} {dt : List (List FieldType)} {st : Nat → Nat} {A : Nat → Prop} {nL n0 : Nat} {a0 : Nat → Nat}
variable {L : List (Nat × mm_v)} {S S' : List mm_v} {h : mm_h} {mc ms : Nat} {a : Nat → Nat} {ws : va_W} {tys : List (ClassId × FieldType)} {H : Heap} {locs : List Loc} {ls : Array Slot} {vs : List Value} {pc : Nat} {N : mm_s → Prop}
variable {Ts : List Cond} {AO : List String} {own : String}
/-- a link to a field: pool number, object kind, field, its type (char: it is only read here), whether it is written once -/
abbrev ck_FL : Type := Nat × Nat × Nat × FieldType × Bool
def ck_okF (cl : List vw_C) (Ts : List Cond) (own : String) (q : ck_FL) : Prop := ∃ (C : String) (T : u_T) (N : Nat), cl[q.2.1]? = some (C, T, N) ∧ q.2.2.1 < N ∧ Cond.fieldLink own q.1 (T q.2.2.1).1 (T q.2.2.1).2.1 (T q.2.2.1).2.2.1 ∈ Ts ∧ (q.2.2.2.1 = .char ∨ (parseFieldDescriptor (T q.2.2.1).2.2.1 = some q.2.2.2.1 ∧ (T q.2.2.1).2.2.2 = q.2.2.2.2 ∧ (q.2.2.2.2 = true → (T q.2.2.1).1 = own)))
def ck_okC (cl : List vw_C) (Ts : List Cond) : Prop := ∀ (ci : Nat) (C : String) (T : u_T) (N : Nat), cl[ci]? = some (C, T, N) → (∀ w ∈ u_ws C T N, w ∈ Ts) ∧ (∃ ty : Nat → FieldType, ∀ k, k < N → parseFieldDescriptor (T k).2.2.1 = some (ty k)) ∧ (∀ a, a < N → ∀ b, b < N → a ≠ b → (T a).2.1 ≠ (T b).2.1)
def ck_okN (cl : List vw_C) (Ts : List Cond) (own : String) (q : Nat × Nat) : Prop := ∃ (C : String) (T : u_T) (N : Nat), cl[q.2]? = some (C, T, N) ∧ Cond.classLink own q.1 C ∈ Ts ∧ Cond.instantiable C N ∈ Ts ∧ Cond.initialized C ∈ Ts
def ck_okD (cl : List vw_C) (dt : List (List FieldType)) : Prop := ∀ (ci : Nat) (tl : List FieldType), dt[ci]? = some tl → ∃ (C : String) (T : u_T), cl[ci]? = some (C, T, tl.length) ∧ ∀ (k : Nat) (t : FieldType), tl[k]? = some t → parseFieldDescriptor (T k).2.2.1 = some t
def ck_okA (Ts : List Cond) (AO : List String) (own : String) (q : Nat × String) : Prop := Cond.classLink own q.1 q.2 ∈ Ts ∧ q.2 ∈ AO
def ck_fld (fl : List ck_FL) (x : Nat) : Option ck_FL := fl.find? (fun q => q.1 == x)
theorem ck_fld_ok {fl : List ck_FL} {x : Nat} {q : ck_FL} (h : ck_fld fl x = some q) (hF : ∀ q ∈ fl, ck_okF cl Ts own q) : q.1 = x ∧ ck_okF cl Ts own q := ⟨by simpa using List.find?_some h, hF _ (List.mem_of_find?_eq_some h)⟩
theorem ck_found {α : Type} {ql : List (Nat × α)} {x : Nat} {q : Nat × α} (h : ql.find? (fun q => q.1 == x) = some q) : q ∈ ql ∧ q.1 = x := ⟨List.mem_of_find?_eq_some h, by simpa using List.find?_some h⟩
theorem ck_tysapp {y : ClassId × FieldType} : ∀ (t : Nat) (z : ClassId × FieldType), tys[t]? = some z → ∃ t' : Nat, (tys ++ [y])[t']? = some z := fun t z h => ⟨t, by rw [List.getElem?_append_left (List.getElem?_eq_some_iff.mp h).1]; exact h⟩
theorem ck_tyslast {y : ClassId × FieldType} : ∃ t : Nat, (tys ++ [y])[t]? = some y := ⟨tys.length, by simp⟩
/-- the cells change, the rest stays -/
theorem mm_G.chg {h' : mm_h} {ws' : va_W} {H1 : Heap} {locs1 : List Loc} (hG : mm_G D cl dt st A s nL n0 a0 L S h a ws tys H locs ls vs) (hn : h'.1 = h.1) (hR : mm_R dt tys a h' ws') (hP : va_P D cl ws' H1) (hD : va_D A ws') (hS : va_S A s.heap H1 locs1) : mm_G D cl dt st A s nL n0 a0 L S h' a ws' tys H1 locs1 ls vs := by
  obtain ⟨h1, ⟨lv, h2, h2'⟩, h3, h4, h5, h6, h7, h8, h9, h10⟩ := hG
  exact ⟨hR, ⟨lv, h2, fun q hq => by rw [hn]; exact h2' q hq⟩, h3, fun v hv => by rw [hn]; exact h4 v hv, h5, hP, hD, hS, by rw [hn]; exact h9, h10⟩
/-- one more cell -/
theorem mm_G.more {tys' : List (ClassId × FieldType)} {S0 : ck_Sh} {q : Nat} {x : va_E} {H1 : Heap} (hG : mm_G D cl dt st A s nL n0 a0 L S h a ws tys H locs ls vs) (ht : ∀ (t : Nat) (y : ClassId × FieldType), tys[t]? = some y → ∃ t' : Nat, tys'[t']? = some y) (hf : mm_fit dt tys' (fun i => if i = h.1 then q else a i) S0 (fun _ => 0) (fun _ => none) x) (hK : va_K D cl tys' s) (hP : va_P D cl (ws ++ [(q, x)]) H1) (hD : va_D A (ws ++ [(q, x)])) (hS : va_S A s.heap H1 locs) : mm_G D cl dt st A s nL n0 a0 L (mm_A (some h.1) :: S) (mm_new h S0) (fun i => if i = h.1 then q else a i) (ws ++ [(q, x)]) tys' H1 locs ls (.ref q :: vs) := by
  obtain ⟨h1, ⟨lv, h2, h2'⟩, h3, h4, h5, h6, h7, h8, h9, h10⟩ := hG
  have hag : ∀ i, i < h.1 → (fun i => if i = h.1 then q else a i) i = a i := fun i hi => if_neg (Nat.ne_of_lt hi)
  refine ⟨h1.push ht hf, ⟨lv, h2, fun y hy => ?_⟩, ?_, fun v hv => ?_, hK, hP, hD, hS, Nat.le_succ_of_le h9, fun i hi => by rw [hag i (Nat.lt_of_lt_of_le hi h9)]; exact h10 i hi⟩
  · obtain ⟨g1, g2⟩ := h2' y hy
    exact ⟨by rw [mm_val_on g2 hag]; exact g1, g2.mono (Nat.le_succ _)⟩
  · rw [List.map_cons, h3]
    have e1 : mm_val (fun i => if i = h.1 then q else a i) st (mm_A (some h.1)) = .ref q := by
      show Value.ref (if h.1 = h.1 then q else a h.1) = .ref q
      rw [if_pos rfl]
    rw [e1]
    congr 1
    exact List.map_congr_left (fun v hv => (mm_val_on (h4 v hv) hag).symm)
  · rcases List.mem_cons.mp hv with rfl | hv
    · exact Nat.lt_succ_self _
    · exact (h4 v hv).mono (Nat.le_succ _)
def mm_fd (h : mm_h) (i k : Nat) (t : FieldType) : mm_v := match mm_ft t with
  | some true => mm_A (h.2.2.2 i k)
  | _ => mm_I (h.2.2.1 i k)
theorem mm_fd_val (h : mm_h) (i k : Nat) (t : FieldType) : mm_val a st (mm_fd h i k t) = mm_fv a (h.2.2.1 i k) (h.2.2.2 i k) t := by
  unfold mm_fd mm_fv
  generalize mm_ft t = z
  rcases z with _ | b
  · rfl
  · cases b <;> rfl
theorem mm_fd_in {i k : Nat} {t : FieldType} (hr : ∀ (k j : Nat), h.2.2.2 i k = some j → j < h.1) : mm_in h.1 (mm_fd h i k t) := by
  unfold mm_fd
  split
  · cases hk : h.2.2.2 i k with
    | none => trivial
    | some j => exact hr k j hk
  · trivial
def mm_f (fl : List ck_FL) (dt : List (List FieldType)) (ini : Bool) (pc : Nat) (i : Instr × Nat) (L : List (Nat × mm_v)) (S : List mm_v) (h : mm_h) (k : Nat × Nat) (N : mm_s → Prop) : Prop := match i, S with
  | (.getfield x, 3), .inr (.inr (.inl (some i))) :: S => ∃ (q : ck_FL) (n : Nat) (tl : List FieldType) (t : FieldType), ck_fld fl x = some q ∧ i < h.1 ∧ h.2.1 i = .inl (q.2.1, n) ∧ dt[q.2.1]? = some tl ∧ tl[q.2.2.1]? = some t ∧ N (pc + 3, L, mm_fd h i q.2.2.1 t :: S, h, k)
  | (.putfield x, 3), .inl y :: .inr (.inr (.inl (some i))) :: S => ∃ (q : ck_FL) (n : Nat) (tl : List FieldType), ck_fld fl x = some q ∧ i < h.1 ∧ h.2.1 i = .inl (q.2.1, n) ∧ dt[q.2.1]? = some tl ∧ tl[q.2.2.1]? = some q.2.2.2.1 ∧ mm_ft q.2.2.2.1 = some false ∧ narrow q.2.2.2.1 (.int y) = .int y ∧ fits q.2.2.2.1 (.int y) = true ∧ (q.2.2.2.2 = true → ini = true) ∧ N (pc + 3, L, S, mm_si h i q.2.2.1 y, k)
  | (.putfield x, 3), .inr (.inr (.inl r)) :: .inr (.inr (.inl (some i))) :: S => ∃ (q : ck_FL) (n : Nat) (tl : List FieldType), ck_fld fl x = some q ∧ i < h.1 ∧ h.2.1 i = .inl (q.2.1, n) ∧ dt[q.2.1]? = some tl ∧ tl[q.2.2.1]? = some q.2.2.2.1 ∧ mm_ft q.2.2.2.1 = some true ∧ (q.2.2.2.2 = true → ini = true) ∧ N (pc + 3, L, S, mm_sr h i q.2.2.1 r, k)
  | _, _ => False
theorem mm_ft_char {t : FieldType} {b : Bool} (h : mm_ft t = some b) : t ≠ .char := fun z => by rw [z] at h; cases h
theorem mm_ft_ref {t : FieldType} (h : mm_ft t = some true) (r : Option Nat) : narrow t (va_rf r) = va_rf r ∧ fits t (va_rf r) = true := by
  unfold mm_ft at h
  split at h
  · cases h
  · cases h
  · cases h
  · cases r <;> exact ⟨rfl, rfl⟩
  · cases r <;> exact ⟨rfl, rfl⟩
  · cases h
theorem mm_f_ok {fl : List ck_FL} {ini : Bool} {i : Instr × Nat} (hx : p.tables.exec = Jvm.exec) (hb : c.code = cc) (hown : s.vm.findClass own = some m.cls) (hts : ∀ w ∈ Ts, w.before args s = true) (hC : ck_okC cl Ts) (hF : ∀ q ∈ fl, ck_okF cl Ts own q) (hini : ini = true → meth.name = "<init>") (hd : decode cc pc = .ok i) (hi : mm_f fl dt ini pc i L S h (mc, ms) N) (hG : mm_G D cl dt st A s nL n0 a0 L S h a ws tys H locs ls vs) (K : ∀ x, N x → mm_K p l e R s m args below meth c Q D cl dt st A nL n0 a0 x) : W p l e R s m args below meth c H locs mc ms Q (F0 m pc ls vs) := by
  have ev := hG.evs
  subst ev
  have hR := hG.1
  have hK := hG.2.2.2.2.1
  have hP := hG.2.2.2.2.2.1
  have hD := hG.2.2.2.2.2.2.1
  have hS := hG.2.2.2.2.2.2.2.1
  unfold mm_f at hi
  split at hi
  · rename_i i0 S0
    obtain ⟨q, n, tl, t, h1, h2, h3, h4, h5, h6⟩ := hi
    obtain ⟨tl', fs, g1, g2, g3, g4, g5⟩ := hR.obj h2 h3
    have etl : tl' = tl := Option.some.inj (g2.symm.trans h4)
    subst etl
    obtain ⟨e1, C, T, N', f1, f2, f3, f4⟩ := ck_fld_ok h1 hF
    rw [e1] at f3
    refine va_get hx hb hts (hC _ _ _ _ f1).1 hown hK hP _ g1 f1 _ f2 (hts _ f3) (fun _ z => z) (g5 _ _ h5) hd ?_
    have kk := K _ h6 a ws tys H locs ls _ (hG.tl.psh (mm_fd_in (hR.2 _ h2).2))
    rw [mm_fd_val] at kk
    exact kk
  · rename_i y i0 S0
    obtain ⟨q, n, tl, h1, h2, h3, h4, h5, h6, h7, h8, h9, h10⟩ := hi
    obtain ⟨tl', fs, g1, g2, g3, g4, g5⟩ := hR.obj h2 h3
    have etl : tl' = tl := Option.some.inj (g2.symm.trans h4)
    subst etl
    obtain ⟨e1, C, T, N', f1, f2, f3, f456⟩ := ck_fld_ok h1 hF
    obtain ⟨f4, f5, f6⟩ := f456.resolve_left (mm_ft_char h6)
    rw [e1] at f3
    obtain ⟨b1, ⟨ty0, b2⟩, b3⟩ := hC _ _ _ _ f1
    have hk : q.2.2.1 < fs.length := by
      have := (List.getElem?_eq_some_iff.mp h5).1
      omega
    have hr0 := (hR.2 _ h2).2
    have KK := fun (H1 : Heap) (locs1 : List Loc) hP1 hD1 hS1 => K _ h10 a (ws.set i0 (a i0, .inr (q.2.1, fs.set q.2.2.1 (.int y)))) tys H1 locs1 ls _ (hG.tl2.chg (h' := mm_si h i0 q.2.2.1 y) rfl (hR.set h2 rfl rfl (fun j hj => ⟨funext fun k => by show (if j = i0 ∧ k = q.2.2.1 then y else h.2.2.1 j k) = _; rw [if_neg (fun z => hj z.1)], rfl⟩) (by
      rw [h3]
      refine ⟨tl', _, h4, g3, by rw [List.length_set]; exact g4, rfl, fun k t hk2 => ?_⟩
      by_cases hkk : q.2.2.1 = k
      · subst hkk
        have et : t = q.2.2.2.1 := Option.some.inj (hk2.symm.trans h5)
        rw [List.getElem?_set_self hk, et]
        unfold mm_fv
        rw [h6]
        show some (Value.int y) = some (.int (if i0 = i0 ∧ q.2.2.1 = q.2.2.1 then y else _))
        rw [if_pos ⟨rfl, rfl⟩]
      · rw [List.getElem?_set_ne hkk, g5 k t hk2]
        show some (mm_fv a (h.2.2.1 i0 k) (h.2.2.2 i0 k) t) = some (mm_fv a (if i0 = i0 ∧ k = q.2.2.1 then y else h.2.2.1 i0 k) (h.2.2.2 i0 k) t)
        rw [if_neg (fun z => hkk z.2.symm)]) hr0) hP1 hD1 hS1)
    cases hfin : q.2.2.2.2 with
    | false => exact va_put hx hb hts b1 ty0 b2 b3 hown hK hP hD hS _ g1 f1 _ f2 (hts _ f3) (fun _ z => z) (f5.trans hfin) f4 h7 h8 hk hd KK
    | true => exact va_putF hx hb hts b1 ty0 b2 b3 hown hK hP hD hS _ g1 f1 _ f2 (hts _ f3) (fun _ z => z) (f5.trans hfin) (hini (h9 hfin)) (f6 hfin) f4 h7 h8 hk hd KK
  · rename_i r i0 S0
    obtain ⟨q, n, tl, h1, h2, h3, h4, h5, h6, h9, h10⟩ := hi
    obtain ⟨tl', fs, g1, g2, g3, g4, g5⟩ := hR.obj h2 h3
    have etl : tl' = tl := Option.some.inj (g2.symm.trans h4)
    subst etl
    obtain ⟨e1, C, T, N', f1, f2, f3, f456⟩ := ck_fld_ok h1 hF
    obtain ⟨f4, f5, f6⟩ := f456.resolve_left (mm_ft_char h6)
    rw [e1] at f3
    obtain ⟨b1, ⟨ty0, b2⟩, b3⟩ := hC _ _ _ _ f1
    obtain ⟨h7, h8⟩ := mm_ft_ref h6 (r.map a)
    have hk : q.2.2.1 < fs.length := by
      have := (List.getElem?_eq_some_iff.mp h5).1
      omega
    have hr0 := (hR.2 _ h2).2
    have hrin : ∀ j, r = some j → j < h.1 := fun j hj => by
      have := hG.ins _ List.mem_cons_self
      rw [hj] at this
      exact this
    have KK := fun (H1 : Heap) (locs1 : List Loc) hP1 hD1 hS1 => K _ h10 a (ws.set i0 (a i0, .inr (q.2.1, fs.set q.2.2.1 (va_rf (r.map a))))) tys H1 locs1 ls _ (hG.tl2.chg (h' := mm_sr h i0 q.2.2.1 r) rfl (hR.set h2 rfl rfl (fun j hj => ⟨rfl, funext fun k => by show (if j = i0 ∧ k = q.2.2.1 then r else h.2.2.2 j k) = _; rw [if_neg (fun z => hj z.1)]⟩) (by
      rw [h3]
      refine ⟨tl', _, h4, g3, by rw [List.length_set]; exact g4, rfl, fun k t hk2 => ?_⟩
      by_cases hkk : q.2.2.1 = k
      · subst hkk
        have et : t = q.2.2.2.1 := Option.some.inj (hk2.symm.trans h5)
        rw [List.getElem?_set_self hk, et]
        unfold mm_fv
        rw [h6]
        show some (va_rf (r.map a)) = some (va_rf ((if i0 = i0 ∧ q.2.2.1 = q.2.2.1 then r else _).map a))
        rw [if_pos ⟨rfl, rfl⟩]
      · rw [List.getElem?_set_ne hkk, g5 k t hk2]
        show some (mm_fv a (h.2.2.1 i0 k) (h.2.2.2 i0 k) t) = some (mm_fv a (h.2.2.1 i0 k) (if i0 = i0 ∧ k = q.2.2.1 then r else h.2.2.2 i0 k) t)
        rw [if_neg (fun z => hkk z.2.symm)]) (fun k j hkj => by
        have hkj' : (if i0 = i0 ∧ k = q.2.2.1 then r else h.2.2.2 i0 k) = some j := hkj
        by_cases hkk : k = q.2.2.1
        · rw [if_pos ⟨rfl, hkk⟩] at hkj'; exact hrin j hkj'
        · rw [if_neg (fun z => hkk z.2)] at hkj'; exact hr0 k j hkj')) hP1 hD1 hS1)
    cases hfin : q.2.2.2.2 with
    | false => exact va_put hx hb hts b1 ty0 b2 b3 hown hK hP hD hS _ g1 f1 _ f2 (hts _ f3) (fun _ z => z) (f5.trans hfin) f4 h7 h8 hk hd KK
    | true => exact va_putF hx hb hts b1 ty0 b2 b3 hown hK hP hD hS _ g1 f1 _ f2 (hts _ f3) (fun _ z => z) (f5.trans hfin) (hini (h9 hfin)) (f6 hfin) f4 h7 h8 hk hd KK
  · exact hi.elim
end MMC
