/-! THE TABLE RUN, 5: rows read and written -/
section CKR
variable {p : Program} {l : Launch} {e : Env} {R : Room} {s : State} {m : MethodId} {args : Array Value} {below : List Frame} {meth : Method} {c : Code} {Q : State → Prop}
variable {cc : ByteArray} {D : va_G} {cl : List vw_C} {st : Nat → Nat} {sh : List ck_Sh} {A : Nat → Prop} {nL : Nat} {wr : List (Nat × Nat)} {ws0 : va_W}
variable {I I' : List ck_I} {L : List (Nat × ck_V)} {S S' : List ck_V} {X : ck_D} {nc mc ms n : Nat} {ν ν' : Nat → Int} {ws : va_W} {tys : List (ClassId × FieldType)} {H : Heap} {locs : List Loc} {ls : Array Slot} {vs vs' : List Value} {pc : Nat}
def ck_inR (I : List ck_I) (f : ck_L) (n : Nat) : Bool := decide (0 ≤ (ck_rng I f).1) && decide ((ck_rng I f).2 < (n : Int))
theorem ck_inR_ok {f : ck_L} {N : Nat} {x : Int32} (h : ck_inR I f N = true) (hi : ck_gi ν I) (hx : x.toInt = ck_ev ν f) : vp_in x N ∧ x.toNatClampNeg < N ∧ x.toNatClampNeg = x.toInt.toNat ∧ 0 ≤ x.toInt := by
  have rx := ck_rng32 hi hx
  simp only [ck_inR, Bool.and_eq_true, decide_eq_true_eq] at h
  have e : x.toNatClampNeg = x.toInt.toNat := rfl
  refine ⟨vp_in_iff.mpr ⟨by omega, by omega⟩, by omega, e, by omega⟩
def ck_lookA (X : ck_D) (i : Nat) (f : ck_L) : Option ck_F := if f.2.1 = 0 then (match ck_look X i (f.2.2.toNat + 1) with
  | some F => some F
  | none => ck_look X i 0) else ck_look X i 0
theorem ck_lookA_ok {i N j : Nat} {f : ck_L} {F : ck_F} {q : Nat × va_E} {cA : ClassId} {cn : ck_Cn} {x : Int32} (h : ck_lookA X i f = some F) (hX : ck_gd st ws X) (hq : ws[i]? = some q) (e : q.2 = .inl (cA, N, cn)) (hx : x.toInt = ck_ev ν f) (hj : j = x.toInt.toNat) (hN : j < N) : ck_fv st ws F (ck_elem cn j) := by
  have any : ∀ G, ck_look X i 0 = some G → ck_fv st ws G (ck_elem cn j) := fun G hG => ck_look_ok hG hX hq (by rw [e]; exact ⟨j, hN, rfl⟩)
  unfold ck_lookA at h
  split at h
  · rename_i h0
    have ex : x.toInt = f.2.2 := by rw [hx]; unfold ck_ev; rw [h0, Int.zero_mul, Int.zero_add]
    split at h
    · rename_i G hG
      cases h
      refine ck_look_ok hG hX hq ?_
      rw [e, ← ex, ← hj]
      exact ⟨hN, rfl⟩
    · exact any _ h
  · exact any _ h
def ck_join (F G : ck_F) : Option ck_F := match F, G with
  | .inl a, .inl b => some (.inl (min a.1 b.1, max a.2 b.2))
  | .inr a, .inr b => if a = b then some (.inr a) else none
  | _, _ => none
theorem ck_join_ok {F G K : ck_F} {v : Value} (h : ck_join F G = some K) (hv : ck_fv st ws F v ∨ ck_fv st ws G v) : ck_fv st ws K v := by
  unfold ck_join at h
  split at h
  · cases h
    rcases hv with ⟨x, rfl, h1, h2⟩ | ⟨x, rfl, h1, h2⟩
    · exact ⟨x, rfl, by dsimp only; omega, by dsimp only; omega⟩
    · exact ⟨x, rfl, by dsimp only; omega, by dsimp only; omega⟩
  · split at h
    · rename_i e
      cases h
      subst e
      exact hv.elim id id
    · cases h
  · cases h
def ck_wrA (X : ck_D) (i : Nat) (f : ck_L) (F : ck_F) : ck_D := X.filterMap fun x =>
  if x.1.1 = i then (if f.2.1 = 0 ∧ x.1.2 ≠ 0 then (if x.1.2 = f.2.2.toNat + 1 then some (x.1, F) else some x) else (ck_join x.2 F).map fun G => (x.1, G)) else some x
theorem ck_setrow {i a N j : Nat} {cA : ClassId} {cn cn' : ck_Cn} {v : Value} {F : ck_F} {f : ck_L} (hG : ck_G D cl st sh A s nL wr ws0 I L S X nc ν ws tys H locs ls vs) (hi : ws[i]? = some (a, .inl (cA, N, cn))) (hel : ∀ q, ck_elem cn' q = if q = j then v else ck_elem cn q) (hcn : ∀ ty, ck_cnt ty cn → ck_cnt ty cn') (hf : f.2.1 = 0 → j = f.2.2.toNat) (hv : ck_fv st ws F v) (hwr : (i, 0) ∈ wr) {H1 : Heap} {locs1 : List Loc} (hP : va_P D cl (ws.set i (a, .inl (cA, N, cn'))) H1) (hD : va_D A (ws.set i (a, .inl (cA, N, cn')))) (hS : va_S A s.heap H1 locs1) : ck_G D cl st sh A s nL wr ws0 I L S (ck_wrA X i f F) nc ν (ws.set i (a, .inl (cA, N, cn'))) tys H1 locs1 ls vs := by
  obtain ⟨h1, h2, h3, h4, h5, h6, h7, h8, h9, h10⟩ := hG
  have ho := ck_on.set (e' := .inl (cA, N, cn')) hi
  have hfr : ck_fr wr ws (ws.set i (a, .inl (cA, N, cn'))) := ck_fr.set hi (fun j hj h0 w hw => absurd hwr h0)
  refine ⟨h1, h2.on ho (Nat.le_refl _) (fun _ _ => rfl), h3.on ho (Nat.le_refl _) (fun _ _ => rfl), ?_, h5.set hi ?_, h6, hP, hD, hS, h10.trans hfr⟩
  · intro y hy
    obtain ⟨x, hx, hxy⟩ := List.mem_filterMap.mp hy
    obtain ⟨q, hq, hv'⟩ := h4 x hx
    by_cases hc : x.1.1 = i
    · rw [if_pos hc] at hxy
      rw [hc] at hq
      have eq : q = (a, .inl (cA, N, cn)) := Option.some.inj (hq.symm.trans hi)
      subst eq
      have hnew : (ws.set i (a, .inl (cA, N, cn')))[i]? = some (a, .inl (cA, N, cn')) := List.getElem?_set_self (List.getElem?_eq_some_iff.mp hi).1
      by_cases hz : f.2.1 = 0 ∧ x.1.2 ≠ 0
      · rw [if_pos hz] at hxy
        have ej := hf hz.1
        obtain ⟨k, hk⟩ : ∃ k, x.1.2 = k + 1 := ⟨x.1.2 - 1, by omega⟩
        by_cases hs : x.1.2 = f.2.2.toNat + 1
        · rw [if_pos hs] at hxy
          cases hxy
          refine ⟨_, by rw [hc]; exact hnew, fun w hw => ?_⟩
          dsimp only at hw
          rw [hk] at hw
          obtain ⟨-, ew⟩ := hw
          rw [ew, hel k, if_pos (by omega)]
          exact hv.on ho
        · rw [if_neg hs] at hxy
          cases hxy
          refine ⟨_, by rw [hc]; exact hnew, fun w hw => (hv' w ?_).on ho⟩
          dsimp only at hw ⊢
          rw [hk] at hw ⊢
          obtain ⟨hl, ew⟩ := hw
          rw [hel k, if_neg (by omega)] at ew
          exact ⟨hl, ew⟩
      · rw [if_neg hz] at hxy
        cases hjn : ck_join x.2 F with
        | none => rw [hjn] at hxy; cases hxy
        | some G =>
          rw [hjn] at hxy
          cases hxy
          refine ⟨_, by rw [hc]; exact hnew, fun w hw => ?_⟩
          dsimp only at hw
          have key : ∀ k, k < N → w = ck_elem cn' k → (ck_slot (.inl (cA, N, cn)) x.1.2 (ck_elem cn k)) → ck_fv st (ws.set i (a, .inl (cA, N, cn'))) G w := fun k hk ew hs => by
            rw [hel k] at ew
            by_cases hkj : k = j
            · rw [if_pos hkj] at ew
              rw [ew]
              exact (ck_join_ok hjn (Or.inr hv)).on ho
            · rw [if_neg hkj] at ew
              rw [ew]
              exact (ck_join_ok hjn (Or.inl (hv' _ hs))).on ho
          match hx2 : x.1.2, hw with
          | 0, hw =>
            obtain ⟨k, hk, ew⟩ := hw
            exact key k hk ew (by rw [hx2]; exact ⟨k, hk, rfl⟩)
          | k + 1, hw =>
            obtain ⟨hk, ew⟩ := hw
            exact key k hk ew (by rw [hx2]; exact ⟨hk, rfl⟩)
    · rw [if_neg hc] at hxy
      cases hxy
      exact ⟨q, by rw [List.getElem?_set_ne (fun z => hc z.symm)]; exact hq, fun w hw => (hv' w hw).on ho⟩
  · intro S hs
    rcases S with o | r
    · exact hs.elim
    · exact ⟨hs.1, hs.2.1, hcn _ hs.2.2⟩
def ck_boolF (I : List ck_I) (f : ck_L) : Option ck_F := let a := ck_rng I f; if 0 ≤ a.1 ∧ a.2 ≤ 1 then some (.inl a) else none
theorem ck_boolI {x : Int32} (h0 : 0 ≤ x.toInt) (h1 : x.toInt ≤ 1) : vp_nar .boolean x = x := by
  rcases (show x.toInt = 0 ∨ x.toInt = 1 by omega) with q | q
  · have e : x = 0 := Int32.toInt_inj.mp q
    rw [e]; rfl
  · have e : x = 1 := Int32.toInt_inj.mp q
    rw [e]; rfl
def ck_byteF (I : List ck_I) (f : ck_L) : ck_F := let a := ck_rng I f; if -128 ≤ a.1 ∧ a.2 ≤ 127 then .inl a else .inl (-128, 127)
theorem ck_byteF_ok {f : ck_L} {x : Int32} (hi : ck_gi ν I) (hx : x.toInt = ck_ev ν f) : ck_fv st ws (ck_byteF I f) (.int (vp_nar .byte x)) := by
  have rx := ck_rng32 hi hx
  rw [vp_nar_byte]
  unfold ck_byteF
  dsimp only
  split
  · rw [ck_byteI (by omega) (by omega)]
    exact ⟨x, rfl, rx⟩
  · exact ⟨_, rfl, ck_byteR x⟩
theorem ck_upd_el (f : Nat → Int32) (j : Nat) (x : Int32) (q : Nat) : ck_elem (.inl (upd f j x)) q = if q = j then .int x else ck_elem (.inl f) q := by
  show Value.int (if q = j then x else f q) = _
  split <;> rfl
theorem ck_up_el (f : Nat → Option Nat) (j : Nat) (x : Option Nat) (q : Nat) : ck_elem (.inr (.inr (.inr (.inr (va_up f j x))))) q = if q = j then va_rf x else ck_elem (.inr (.inr (.inr (.inr f)))) q := by
  show va_rf (if q = j then x else f q) = _
  split <;> rfl
def ck_ld (sh : List ck_Sh) (pc : Nat) (i : Instr × Nat) (I : List ck_I) (L : List (Nat × ck_V)) (S : List ck_V) (X : ck_D) (k : Nat × Nat × Nat) : Option (List (Nat × ck_S)) := match i, S with
  | (.iaload, 1), .inl f :: .inr (0, i) :: S => match ck_row sh i, ck_lookA X i f with
    | some (.int, N), some F => if ck_inR I f N = true then (match ck_pushF I F with
      | some r => some [(pc + 1, (r.1, L, r.2 :: S, X, k))]
      | none => none) else none
    | _, _ => none
  | (.baload, 1), .inl f :: .inr (0, i) :: S => match ck_row sh i, ck_lookA X i f with
    | some (.byte, N), some F => if ck_inR I f N = true then (match ck_pushF I F with
      | some r => some [(pc + 1, (r.1, L, r.2 :: S, X, k))]
      | none => none) else none
    | some (.boolean, N), some F => if ck_inR I f N = true then (match ck_pushF I F with
      | some r => some [(pc + 1, (r.1, L, r.2 :: S, X, k))]
      | none => none) else none
    | _, _ => none
  | (.aaload, 1), .inl f :: .inr (0, i) :: S => match ck_row sh i, ck_lookA X i f with
    | some (.object _, N), some F => if ck_inR I f N = true then (match ck_pushF I F with
      | some r => some [(pc + 1, (r.1, L, r.2 :: S, X, k))]
      | none => none) else none
    | _, _ => none
  | (.arraylength, 1), .inr (0, i) :: S => match ck_row sh i with
    | some r => if r.2 < 2147483648 then some [(pc + 1, (I, L, .inl (ck_k r.2) :: S, X, k))] else none
    | none => none
  | _, _ => none
theorem ck_ld_ok {i : Instr × Nat} {xs : List (Nat × ck_S)} (hx : p.tables.exec = Jvm.exec) (hb : c.code = cc) (hd : decode cc pc = .ok i) (h : ck_ld sh pc i I L S X (nc, mc, ms) = some xs) (hn : n ≤ I.length) (hG : ck_G D cl st sh A s nL wr ws0 I L S X nc ν ws tys H locs ls vs)
    (K : ∀ x ∈ xs, ck_N p l e R s m args below meth c Q D cl st sh A nL wr ws0 n ν x) : W p l e R s m args below meth c H locs mc ms Q (F0 m pc ls vs) := by
  have hK := hG.2.2.2.2.2.1
  have hP := hG.2.2.2.2.2.2.1
  unfold ck_ld at h
  split at h
  · split at h
    · rename_i N F hr hF
      split at h
      · rename_i hin
        split at h
        · rename_i r hpu
          cases h
          obtain ⟨v, vs', rfl, ⟨w1, x, rfl, e1⟩, h2⟩ := hG.gs.pop
          obtain ⟨v, vs2, rfl, ⟨⟨a, ee⟩, h1, rfl⟩, h5⟩ := h2.pop
          obtain ⟨cA, cn, t, h3, h4, h6⟩ := ck_row_ok hr hG.2.2.2.2.1 h1
          obtain ⟨b1, b2, b3, b4⟩ := ck_inR_ok hin hG.gi e1
          have hfv := ck_lookA_ok hF hG.2.2.2.1 h1 h3 e1 b3 b2
          dsimp only at h3 h4
          subst h3
          rcases cn with g | cn
          · exact va_iald hx hb hK hP _ t h1 h4 b1 hd (ck_pushF_ok (hG.stk h5) hn hfv hpu (K _ List.mem_cons_self))
          · exact h6.elim
        · cases h
      · cases h
    · cases h
  · split at h
    · rename_i N F hr hF
      split at h
      · rename_i hin
        split at h
        · rename_i r hpu
          cases h
          obtain ⟨v, vs', rfl, ⟨w1, x, rfl, e1⟩, h2⟩ := hG.gs.pop
          obtain ⟨v, vs2, rfl, ⟨⟨a, ee⟩, h1, rfl⟩, h5⟩ := h2.pop
          obtain ⟨cA, cn, t, h3, h4, h6⟩ := ck_row_ok hr hG.2.2.2.2.1 h1
          obtain ⟨b1, b2, b3, b4⟩ := ck_inR_ok hin hG.gi e1
          have hfv := ck_lookA_ok hF hG.2.2.2.1 h1 h3 e1 b3 b2
          dsimp only at h3 h4
          subst h3
          rcases cn with g | cn
          · exact va_bald hx hb hK hP _ t h1 h4 b1 hd (ck_pushF_ok (hG.stk h5) hn hfv hpu (K _ List.mem_cons_self))
          · exact h6.elim
        · cases h
      · cases h
    · rename_i N F hr hF
      split at h
      · rename_i hin
        split at h
        · rename_i r hpu
          cases h
          obtain ⟨v, vs', rfl, ⟨w1, x, rfl, e1⟩, h2⟩ := hG.gs.pop
          obtain ⟨v, vs2, rfl, ⟨⟨a, ee⟩, h1, rfl⟩, h5⟩ := h2.pop
          obtain ⟨cA, cn, t, h3, h4, h6⟩ := ck_row_ok hr hG.2.2.2.2.1 h1
          obtain ⟨b1, b2, b3, b4⟩ := ck_inR_ok hin hG.gi e1
          have hfv := ck_lookA_ok hF hG.2.2.2.1 h1 h3 e1 b3 b2
          dsimp only at h3 h4
          subst h3
          rcases cn with g | cn
          · exact va_zald hx hb hK hP _ t h1 h4 b1 hd (ck_pushF_ok (hG.stk h5) hn hfv hpu (K _ List.mem_cons_self))
          · exact h6.elim
        · cases h
      · cases h
    · cases h
  · split at h
    · rename_i C N F hr hF
      split at h
      · rename_i hin
        split at h
        · rename_i r hpu
          cases h
          obtain ⟨v, vs', rfl, ⟨w1, x, rfl, e1⟩, h2⟩ := hG.gs.pop
          obtain ⟨v, vs2, rfl, ⟨⟨a, ee⟩, h1, rfl⟩, h5⟩ := h2.pop
          obtain ⟨cA, cn, t, h3, h4, h6⟩ := ck_row_ok hr hG.2.2.2.2.1 h1
          obtain ⟨b1, b2, b3, b4⟩ := ck_inR_ok hin hG.gi e1
          have hfv := ck_lookA_ok hF hG.2.2.2.1 h1 h3 e1 b3 b2
          dsimp only at h3 h4
          subst h3
          rcases cn with g | g | g | g | g
          · exact h6.elim
          · exact h6.elim
          · exact h6.elim
          · exact h6.elim
          · exact va_aldq hx hb hK hP _ t h1 h4 b1 hd (ck_pushF_ok (hG.stk h5) hn hfv hpu (K _ List.mem_cons_self))
        · cases h
      · cases h
    · cases h
  · split at h
    · rename_i r hr
      split at h
      · rename_i hlt
        cases h
        obtain ⟨v, vs', rfl, ⟨⟨a, ee⟩, h1, rfl⟩, h5⟩ := hG.gs.pop
        obtain ⟨cA, cn, t, h3, h4, h6⟩ := ck_row_ok hr hG.2.2.2.2.1 h1
        dsimp only at h3 h4
        subst h3
        refine va_alen hx hb hK hP _ t h1 h4 rfl hd (ck_pushv (hG.stk h5) hn (f := ck_k r.2) ?_ (K _ List.mem_cons_self))
        have e1 : (Int32.ofNat r.2).toInt = (r.2 : Int) := nI_toInt (n := r.2) (by omega)
        rw [e1]
        exact ck_k_ok hG.gi _
      · cases h
    · cases h
  · cases h
def ck_sr (cl : List vw_C) (sh : List ck_Sh) (wr : List (Nat × Nat)) (pc : Nat) (i : Instr × Nat) (I : List ck_I) (L : List (Nat × ck_V)) (S : List ck_V) (X : ck_D) (k : Nat × Nat × Nat) : Option (List (Nat × ck_S)) := match i, S with
  | (.iastore, 1), .inl g :: .inl f :: .inr (0, i) :: S => match ck_row sh i with
    | some (.int, N) => if ck_inR I f N = true ∧ wr.contains (i, 0) = true then some [(pc + 1, (I, L, S, ck_wrA X i f (.inl (ck_rng I g)), k))] else none
    | _ => none
  | (.bastore, 1), .inl g :: .inl f :: .inr (0, i) :: S => match ck_row sh i with
    | some (.byte, N) => if ck_inR I f N = true ∧ wr.contains (i, 0) = true then some [(pc + 1, (I, L, S, ck_wrA X i f (ck_byteF I g), k))] else none
    | some (.boolean, N) => if ck_inR I f N = true ∧ wr.contains (i, 0) = true ∧ 0 ≤ (ck_rng I g).1 ∧ (ck_rng I g).2 ≤ 1 then some [(pc + 1, (I, L, S, ck_wrA X i f (.inl (ck_rng I g)), k))] else none
    | _ => none
  | (.aastore, 1), .inr (1, z) :: .inl f :: .inr (0, i) :: S => match ck_row sh i with
    | some (.object _, N) => if ck_inR I f N = true ∧ wr.contains (i, 0) = true then some [(pc + 1, (I, L, S, ck_wrA X i f (.inr (1, z)), k))] else none
    | _ => none
  | (.aastore, 1), .inr (0, z) :: .inl f :: .inr (0, i) :: S => match ck_row sh i, ck_obj sh z with
    | some (.object C, N), some o => match cl[o.1]? with
      | some r => if r.1 = C ∧ ck_inR I f N = true ∧ wr.contains (i, 0) = true then some [(pc + 1, (I, L, S, ck_wrA X i f (.inr (0, z)), k))] else none
      | none => none
    | _, _ => none
  | _, _ => none
theorem ck_sr_ok {i : Instr × Nat} {xs : List (Nat × ck_S)} (hx : p.tables.exec = Jvm.exec) (hb : c.code = cc) (hd : decode cc pc = .ok i) (h : ck_sr cl sh wr pc i I L S X (nc, mc, ms) = some xs) (hG : ck_G D cl st sh A s nL wr ws0 I L S X nc ν ws tys H locs ls vs)
    (K : ∀ x ∈ xs, ck_N p l e R s m args below meth c Q D cl st sh A nL wr ws0 n ν x) : W p l e R s m args below meth c H locs mc ms Q (F0 m pc ls vs) := by
  have hK := hG.2.2.2.2.2.1
  have hP := hG.2.2.2.2.2.2.1
  have hD := hG.2.2.2.2.2.2.2.1
  have hS := hG.2.2.2.2.2.2.2.2.1
  have hcst : ∀ {f : ck_L} {x : Int32} {j : Nat}, x.toInt = ck_ev ν f → j = x.toInt.toNat → f.2.1 = 0 → j = f.2.2.toNat := fun {f x j} e1 e2 e3 => by
    rw [e2, e1]; unfold ck_ev; rw [e3, Int.zero_mul, Int.zero_add]
  unfold ck_sr at h
  split at h
  · split at h
    · rename_i N hr
      split at h
      · rename_i hin
        cases h
        obtain ⟨v, vs', rfl, ⟨w0, y, rfl, e0⟩, h0⟩ := hG.gs.pop
        obtain ⟨v, vs', rfl, ⟨w1, x, rfl, e1⟩, h2⟩ := h0.pop
        obtain ⟨v, vs2, rfl, ⟨⟨a, ee⟩, h1, rfl⟩, h5⟩ := h2.pop
        obtain ⟨cA, cn, t, h3, h4, h6⟩ := ck_row_ok hr hG.2.2.2.2.1 h1
        obtain ⟨b1, b2, b3, b4⟩ := ck_inR_ok hin.1 hG.gi e1
        dsimp only at h3 h4
        subst h3
        rcases cn with g | cn
        · have hfv : ck_fv st ws (.inl (ck_rng I _)) (.int y) := ⟨y, rfl, ck_rng32 hG.gi e0⟩
          exact va_iast hx hb hK hP hD hS _ t h1 h4 b1 hd (fun H1 locs1 hP1 hD1 hS1 => K _ List.mem_cons_self ν _ tys H1 locs1 ls vs2 (fun _ _ => rfl) (ck_setrow (hG.stk h5) h1 (ck_upd_el g _ _) (fun ty hty => by cases ty <;> exact hty) (hcst e1 b3) hfv (List.contains_iff_mem.mp hin.2) hP1 hD1 hS1))
        · exact h6.elim
      · cases h
    · cases h
  · split at h
    · rename_i N hr
      split at h
      · rename_i hin
        cases h
        obtain ⟨v, vs', rfl, ⟨w0, y, rfl, e0⟩, h0⟩ := hG.gs.pop
        obtain ⟨v, vs', rfl, ⟨w1, x, rfl, e1⟩, h2⟩ := h0.pop
        obtain ⟨v, vs2, rfl, ⟨⟨a, ee⟩, h1, rfl⟩, h5⟩ := h2.pop
        obtain ⟨cA, cn, t, h3, h4, h6⟩ := ck_row_ok hr hG.2.2.2.2.1 h1
        obtain ⟨b1, b2, b3, b4⟩ := ck_inR_ok hin.1 hG.gi e1
        dsimp only at h3 h4
        subst h3
        rcases cn with g | cn
        · exact va_bast hx hb hK hP hD hS _ t h1 h4 b1 hd (fun H1 locs1 hP1 hD1 hS1 => K _ List.mem_cons_self ν _ tys H1 locs1 ls vs2 (fun _ _ => rfl) (ck_setrow (hG.stk h5) h1 (ck_upd_el g _ _) (fun ty hty => by cases ty <;> exact hty) (hcst e1 b3) (ck_byteF_ok hG.gi e0) (List.contains_iff_mem.mp hin.2) hP1 hD1 hS1))
        · exact h6.elim
      · cases h
    · rename_i N hr
      split at h
      · rename_i hin
        cases h
        obtain ⟨v, vs', rfl, ⟨w0, y, rfl, e0⟩, h0⟩ := hG.gs.pop
        obtain ⟨v, vs', rfl, ⟨w1, x, rfl, e1⟩, h2⟩ := h0.pop
        obtain ⟨v, vs2, rfl, ⟨⟨a, ee⟩, h1, rfl⟩, h5⟩ := h2.pop
        obtain ⟨cA, cn, t, h3, h4, h6⟩ := ck_row_ok hr hG.2.2.2.2.1 h1
        obtain ⟨b1, b2, b3, b4⟩ := ck_inR_ok hin.1 hG.gi e1
        have ry := ck_rng32 hG.gi e0
        dsimp only at h3 h4
        subst h3
        rcases cn with g | cn
        · exact va_zast hx hb hK hP hD hS _ t h1 h4 b1 hd (fun H1 locs1 hP1 hD1 hS1 => K _ List.mem_cons_self ν _ tys H1 locs1 ls vs2 (fun _ _ => rfl) (ck_setrow (hG.stk h5) h1 (ck_upd_el g _ _) (fun ty hty => by cases ty <;> exact hty) (hcst e1 b3) (by rw [ck_boolI (by omega) (by omega)]; exact ⟨y, rfl, ry⟩) (List.contains_iff_mem.mp hin.2.1) hP1 hD1 hS1))
        · exact h6.elim
      · cases h
    · cases h
  · split at h
    · rename_i C N hr
      split at h
      · rename_i hin
        cases h
        obtain ⟨v, vs', rfl, hv, h0⟩ := hG.gs.pop
        have ev : v = .null := hv
        subst ev
        have hv2 : ∀ z, ck_fv st ws (.inr (1, z)) Value.null := fun _ => rfl
        obtain ⟨v, vs', rfl, ⟨w1, x, rfl, e1⟩, h2⟩ := h0.pop
        obtain ⟨v, vs2, rfl, ⟨⟨a, ee⟩, h1, rfl⟩, h5⟩ := h2.pop
        obtain ⟨cA, cn, t, h3, h4, h6⟩ := ck_row_ok hr hG.2.2.2.2.1 h1
        obtain ⟨b1, b2, b3, b4⟩ := ck_inR_ok hin.1 hG.gi e1
        dsimp only at h3 h4
        subst h3
        rcases cn with g | g | g | g | g
        · exact h6.elim
        · exact h6.elim
        · exact h6.elim
        · exact h6.elim
        · exact va_astqN hx hb hK hP hD hS _ t h1 h4 b1 hd (fun H1 locs1 hP1 hD1 hS1 => K _ List.mem_cons_self ν _ tys H1 locs1 ls vs2 (fun _ _ => rfl) (ck_setrow (hG.stk h5) h1 (ck_up_el g _ _) (fun ty hty => by cases ty <;> exact hty) (hcst e1 b3) (hv2 _) (List.contains_iff_mem.mp hin.2) hP1 hD1 hS1))
      · cases h
    · cases h
  · split at h
    · rename_i C N o hr ho
      split at h
      · rename_i r hcl
        split at h
        · rename_i hin
          obtain ⟨hC, hin⟩ := hin
          cases h
          obtain ⟨v, vs', rfl, hv, h0⟩ := hG.gs.pop
          have hv2 : ck_fv st ws (.inr (0, _)) v := hv
          obtain ⟨⟨b, be⟩, hq, rfl⟩ := hv
          obtain ⟨fs, hq2, -⟩ := ck_obj_ok ho hG.2.2.2.2.1 hq
          obtain ⟨v, vs', rfl, ⟨w1, x, rfl, e1⟩, h2⟩ := h0.pop
          obtain ⟨v, vs2, rfl, ⟨⟨a, ee⟩, h1, rfl⟩, h5⟩ := h2.pop
          obtain ⟨cA, cn, t, h3, h4, h6⟩ := ck_row_ok hr hG.2.2.2.2.1 h1
          obtain ⟨b1, b2, b3, b4⟩ := ck_inR_ok hin.1 hG.gi e1
          dsimp only at h3 h4 hq2
          subst h3
          subst hq2
          subst hC
          rcases cn with g | g | g | g | g
          · exact h6.elim
          · exact h6.elim
          · exact h6.elim
          · exact h6.elim
          · exact va_astq hx hb hK hP hD hS _ t _ _ h1 h4 hq hcl b1 hd (fun H1 locs1 hP1 hD1 hS1 => K _ List.mem_cons_self ν _ tys H1 locs1 ls vs2 (fun _ _ => rfl) (ck_setrow (hG.stk h5) h1 (ck_up_el g _ _) (fun ty hty => by cases ty <;> exact hty) (hcst e1 b3) hv2 (List.contains_iff_mem.mp hin.2) hP1 hD1 hS1))
        · cases h
      · cases h
    · cases h
  · cases h
end CKR
