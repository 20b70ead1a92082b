/-! THE TABLE RUN, 11: a method checked is a method met -/
def ck_okT (cl : List vw_C) (Ts : List Cond) (NM : List (String × Nat × MethodName × String)) (AO : List String) (SL : List (String × Nat × Nat)) (mts : List ck_MT) (own : String) (T : ck_T) : Prop :=
  (∀ q ∈ T.1, ck_okF cl Ts own q) ∧ (∀ q ∈ T.2.1, ck_okN cl Ts own q) ∧ ck_okD cl T.2.2.1 ∧ (∀ t ∈ T.2.2.2.1, Cond.arrayClass t ∈ Ts) ∧ (∀ q ∈ T.2.2.2.2.1, ck_okA Ts AO own q) ∧ (∀ q ∈ T.2.2.2.2.2.2.1, Cond.constant own q.1 (Int32.ofInt q.2) ∈ Ts) ∧ (∀ q ∈ T.2.2.2.2.2.2.2.1, (own, q.1, q.2) ∈ SL) ∧ (∀ q ∈ T.2.2.2.2.2.2.2.2, q.2.1 < 6 → ck_okL Ts NM mts own q) ∧ ∀ q ∈ T.2.2.2.2.2.2.2.2, ck_okY Ts own q
section CKH
variable {p : Program} {l : Launch} {e : Env} {R : Room} {s : State} {m : MethodId} {args : Array Value} {below : List Frame} {meth : Method} {c : Code} {Q : State → Prop}
variable {cc : ByteArray} {D : va_G} {cl : List vw_C} {st : Nat → Nat} {sh : List ck_Sh} {A : Nat → Prop} {nL : Nat} {wr : List (Nat × Nat)} {ws0 : va_W}
variable {I I' : List ck_I} {L : List (Nat × ck_V)} {S S' : List ck_V} {X : ck_D} {nc mc ms n : Nat} {ν ν' : Nat → Int} {ws : va_W} {tys : List (ClassId × FieldType)} {H : Heap} {locs : List Loc} {ls : Array Slot} {vs vs' : List Value} {pc : Nat}
variable {Ts : List Cond} {AO : List String} {own : String} {NM : List (String × Nat × MethodName × String)} {SL : List (String × Nat × Nat)} {mts : List ck_MT}
theorem ck_step_ok {T : ck_T} {cs : List ck_C} {ini : Bool} {CM SM FM LM : Nat} {rt : Instr × Nat → List ck_I → List ck_V → ck_D → Nat × Nat × Nat → Bool} {xs : List (Nat × ck_S)} (hx : p.tables.exec = Jvm.exec) (hb : c.code = cc) (hml : c.maxLocals = nL) (hown : s.vm.findClass own = some m.cls) (hts : ∀ w ∈ Ts, w.before args s = true) (hgood : GoodIn Ts Ts) (hamb : ck_amb NM AO SL st s) (hC : ck_okC cl Ts) (hT : ck_okT cl Ts NM AO SL mts own T) (hCs : ∀ co ∈ cs, ck_Met l Ts mts D cl NM AO SL st sh co) (hA : ∀ q, s.heap.size ≤ q → A q) (hini : ini = true → meth.name = "<init>") (hRc : R.cells = CM) (hRs : R.slots = SM) (hRf : R.frames = FM) (hRl : R.locals = LM)
    (hrt : ∀ i, decode cc pc = .ok i → rt i I S X (nc, mc, ms) = true → ck_G D cl st sh A s nL wr ws0 I L S X nc ν ws tys H locs ls vs → W p l e R s m args below meth c H locs mc ms Q (F0 m pc ls vs))
    (h : ck_step cl mts sh T cs wr ini nL CM SM FM LM rt cc pc I L S X (nc, mc, ms) = some xs) (hn : n ≤ I.length) (hG : ck_G D cl st sh A s nL wr ws0 I L S X nc ν ws tys H locs ls vs)
    (K : ∀ x ∈ xs, ck_N p l e R s m args below meth c Q D cl st sh A nL wr ws0 n ν x) : W p l e R s m args below meth c H locs mc ms Q (F0 m pc ls vs) := by
  obtain ⟨t1, t2, t3, t4, t5, t6, t7, t8, t9⟩ := hT
  unfold ck_step at h
  split at h
  · rename_i i hd
    split at h
    · rename_i ys hy; cases h; exact ck_a_ok hx hb hd hy hn hG K
    split at h
    · rename_i ys hy; cases h; exact ck_b_ok hx hb hd hy hn hG K
    split at h
    · rename_i ys hy; cases h; exact ck_c_ok hx hb hd hy hn hG K
    split at h
    · rename_i ys hy; cases h; exact ck_d_ok hx hb hd hy hG K
    split at h
    · rename_i ys hy; cases h; exact ck_e_ok hx hb hd hy hG K
    split at h
    · rename_i ys hy; cases h; exact ck_f_ok hx hb hown hts hC t1 hini hd hy hn hG K
    split at h
    · rename_i ys hy; cases h; exact ck_ld_ok hx hb hd hy hn hG K
    split at h
    · rename_i ys hy; cases h; exact ck_sr_ok hx hb hd hy hG K
    split at h
    · rename_i ys hy; cases h; exact ck_cal_ok hx hb hml hown hts hgood hamb t8 hCs hA hRc hRs hRf hRl hd hy hn hG K
    split at h
    · rename_i ys hy; cases h; exact ck_y_ok hx hb hml hown hts t9 hRc hRs hRf hRl hd hy hn hG K
    split at h
    · rename_i ys hy; cases h; exact ck_n_ok hx hb hown hts hamb.2.1 hC t2 t3 t4 t5 hA hRc hRs hd hy hG K
    split at h
    · rename_i ys hy; cases h; exact ck_ldc_ok hx hb hown hts t6 (fun q hq => hamb.2.2 _ (t7 q hq)) hd hy hn hG K
    split at h
    · rename_i hr; exact hrt i hd hr hG
    · cases h
  · cases h
/-- the table at a method's entry -/
def ck_entI : List ck_F → List ck_I
  | [] => []
  | .inl z :: Fs => (z.1, z.2, 0, (0, 0, 0)) :: ck_entI Fs
  | .inr _ :: Fs => ck_entI Fs
def ck_entL : Nat → Nat → List ck_F → List (Nat × ck_V)
  | _, _, [] => []
  | j, k, .inl _ :: Fs => (j, .inl (k, 1, 0)) :: ck_entL (j + 1) (k + 1) Fs
  | j, k, .inr q :: Fs => (j, .inr q) :: ck_entL (j + 1) k Fs
def ck_oneF (F : ck_F) : Bool := match F with
  | .inl _ => true
  | .inr q => ck_one (.inr q)
def ck_check (cl : List vw_C) (mts : List ck_MT) (sh : List ck_Sh) (T : ck_T) (cs : List ck_C) (co : ck_C) (hs : List ck_Hd) (sp : List (Nat × Nat × Int)) (fuel : Nat) : Bool := match mts[co.1]? with
  | none => false
  | some M => plainName M.1.cls && co.2.2.1.all ck_oneF && decide (co.2.2.1.length ≤ M.2.2.1) && ck_run (ck_step cl mts sh T cs co.2.2.2.2.1 (decide (M.1.name = "<init>")) M.2.2.1 co.2.2.2.2.2.2.2.2.1 co.2.2.2.2.2.2.2.2.2 co.2.2.2.2.2.2.1 co.2.2.2.2.2.2.2.1 (ck_ret co M.2.2.2.1 (ck_entI co.2.2.1).length) M.2.1) hs sp [] fuel [] (ck_entI co.2.2.1).length 0 (ck_entI co.2.2.1, ck_entL 0 0 co.2.2.1, [], co.2.2.2.1, co.2.1, 0, 0)
def ck_nu (xs : List Int32) (j : Nat) : Int := match xs[j]? with
  | some x => x.toInt
  | none => 0
theorem ck_ent_one : ∀ {Fs : List ck_F} {vs : List Value}, Fs.all ck_oneF = true → ck_av st ws Fs vs → (∀ v ∈ vs, v.category = 1) ∧ Fs.length = vs.length
  | [], [], _, _ => ⟨fun _ h => absurd h List.not_mem_nil, rfl⟩
  | F :: Fs, v :: vs, h1, h => by
    simp only [List.all_cons, Bool.and_eq_true] at h1
    obtain ⟨a1, a2⟩ := ck_ent_one h1.2 h.2
    refine ⟨fun w hw => ?_, by simp [a2]⟩
    rcases List.mem_cons.mp hw with rfl | hw
    · rcases F with z | q
      · obtain ⟨x, rfl, -⟩ := h.1; rfl
      · rcases ck_refs h1.1 h.1 with rfl | ⟨a, rfl⟩ <;> rfl
    · exact a1 w hw
  | [], _ :: _, _, h => h.elim
  | _ :: _, [], _, h => h.elim
theorem ck_ent_ints : ∀ {Fs : List ck_F} {vs : List Value}, Fs.all ck_oneF = true → ck_av st ws Fs vs → (ck_entI Fs).length = (ck_ints vs).length ∧ ∀ (j : Nat) (q : ck_I), (ck_entI Fs)[j]? = some q → q.2.2.1 = 0 ∧ ∃ x, (ck_ints vs)[j]? = some x ∧ q.1 ≤ x.toInt ∧ x.toInt ≤ q.2.1
  | [], [], _, _ => ⟨rfl, fun j q h => by simp [ck_entI] at h⟩
  | .inl z :: Fs, v :: vs, h1, h => by
    simp only [List.all_cons, Bool.and_eq_true] at h1
    obtain ⟨⟨x, rfl, z1, z2⟩, h2⟩ := h
    obtain ⟨a1, a2⟩ := ck_ent_ints h1.2 h2
    refine ⟨by simp [ck_entI, ck_ints, a1], fun j q hq => ?_⟩
    match j, hq with
    | 0, hq =>
      have e : ((z.1, z.2, 0, (0, 0, 0)) : ck_I) = q := by simpa [ck_entI] using hq
      subst e
      exact ⟨rfl, x, rfl, z1, z2⟩
    | j + 1, hq =>
      obtain ⟨b0, y, b1, b2⟩ := a2 j q (by simpa [ck_entI] using hq)
      exact ⟨b0, y, by simpa [ck_ints] using b1, b2⟩
  | .inr q :: Fs, v :: vs, h1, h => by
    simp only [List.all_cons, Bool.and_eq_true] at h1
    obtain ⟨hq, h2⟩ := h
    obtain ⟨a1, a2⟩ := ck_ent_ints h1.2 h2
    rcases ck_refs h1.1 hq with rfl | ⟨a, rfl⟩ <;> exact ⟨a1, a2⟩
  | [], _ :: _, _, h => h.elim
  | _ :: _, [], _, h => h.elim
theorem ck_ent_vals {ys : List Int32} {N : Nat} : ∀ {Fs : List ck_F} {vs : List Value} {j k : Nat}, Fs.all ck_oneF = true → ck_av st ws Fs vs → (∀ i, k + i < ys.length ↔ i < (ck_ints vs).length) → (∀ i x, (ck_ints vs)[i]? = some x → ys[k + i]? = some x) → ys.length ≤ N → ∀ q ∈ ck_entL j k Fs, ∃ v, (q.1, v) ∈ lv_args j vs ∧ ck_gv (ck_nu ys) st ws N q.2 v
  | [], [], _, _, _, _, _, _, _ => fun q hq => by cases hq
  | .inl z :: Fs, v :: vs, j, k, h1, h, hk, hy, hN => by
    simp only [List.all_cons, Bool.and_eq_true] at h1
    obtain ⟨⟨x, rfl, z1, z2⟩, h2⟩ := h
    have ih := ck_ent_vals (ys := ys) (N := N) (j := j + 1) (k := k + 1) h1.2 h2 (fun i => by have := hk (i + 1); simp [ck_ints] at this; rw [← this]; omega) (fun i y hi => by have := hy (i + 1) y (by simpa [ck_ints] using hi); rw [← this]; congr 1; omega) hN
    intro q hq
    rcases List.mem_cons.mp hq with rfl | hq
    · have hx : ys[k]? = some x := by simpa using hy 0 x rfl
      have hl := (List.getElem?_eq_some_iff.mp hx).1
      refine ⟨.int x, List.mem_cons_self, Or.inr (by show k < N; omega), x, rfl, ?_⟩
      simp [ck_ev, ck_nu, hx]
    · obtain ⟨w, a1, a2⟩ := ih q hq
      exact ⟨w, List.mem_cons_of_mem _ a1, a2⟩
  | .inr r :: Fs, v :: vs, j, k, h1, h, hk, hy, hN => by
    simp only [List.all_cons, Bool.and_eq_true] at h1
    obtain ⟨hr, h2⟩ := h
    have hc : v.category = 1 := ck_one_cat (ν := ck_nu ys) (n := N) h1.1 hr
    have hint : ck_ints (v :: vs) = ck_ints vs := by rcases ck_refs h1.1 hr with rfl | ⟨a, rfl⟩ <;> rfl
    rw [hint] at hk hy
    have ih := ck_ent_vals (ys := ys) (N := N) (j := j + 1) (k := k) h1.2 h2 hk hy hN
    have hcons : lv_args j (v :: vs) = (j, v) :: lv_args (j + 1) vs := by
      show (j, v) :: lv_args (if v.category = 2 then j + 2 else j + 1) vs = _
      rw [if_neg (by omega)]
    rw [hcons]
    intro q hq
    rcases List.mem_cons.mp hq with rfl | hq
    · exact ⟨v, List.mem_cons_self, hr⟩
    · obtain ⟨w, a1, a2⟩ := ih q hq
      exact ⟨w, List.mem_cons_of_mem _ a1, a2⟩
  | [], _ :: _, _, _, _, h, _, _, _ => h.elim
  | _ :: _, [], _, _, _, h, _, _, _ => h.elim
theorem ck_slots : ∀ {vs : List Value}, (∀ v ∈ vs, v.category = 1) → (lg_sl vs).length = vs.length
  | [], _ => rfl
  | v :: vs, h => by
    have ih := ck_slots (vs := vs) (fun w hw => h w (List.mem_cons_of_mem _ hw))
    have hc := h v List.mem_cons_self
    cases v <;> simp_all [lg_sl, Value.category]
theorem ck_sound {T : ck_T} {cs : List ck_C} {co : ck_C} {hs : List ck_Hd} {sp : List (Nat × Nat × Int)} {fuel : Nat} (l : Launch) (hgood : GoodIn Ts Ts) (hC : ck_okC cl Ts) (hT : ∀ M, mts[co.1]? = some M → ck_okT cl Ts NM AO SL mts M.1.cls T) (hCs : ∀ c ∈ cs, ck_Met l Ts mts D cl NM AO SL st sh c) (h : ck_check cl mts sh T cs co hs sp fuel = true) : ck_Met l Ts mts D cl NM AO SL st sh co := by
  intro M hM ws tys vs sz hw hav hgd
  unfold ck_check at h
  rw [hM] at h
  simp only [Bool.and_eq_true, decide_eq_true_eq] at h
  obtain ⟨⟨⟨h1, h2⟩, h3⟩, h4⟩ := h
  refine Met.ofW (cc := M.2.1) (maxL := M.2.2.1) (ret := M.2.2.2.1) h1 rfl ?_
  intro p e s m args below meth c s₁ B hml hv
  obtain ⟨rfl, hsz, hP, hK, hD0, hamb⟩ := hv
  subst hsz
  have hx := B.exec
  have hb := B.bytes
  have hr := B.returns
  have hts0 := atoms_spec (ws := Cond.code M.1 M.2.1 M.2.2.1 M.2.2.2.1 :: Ts) B.pre
  have hts : ∀ w ∈ Ts, w.before vs.toArray s = true := fun w hw => hts0 w (List.mem_cons_of_mem _ hw)
  have hown : s.vm.findClass M.1.cls = some m.cls := findClass_of_methodNamed B.named
  have hlocks := B.notSynchronized
  obtain ⟨e1, e2⟩ := ck_ent_one h2 hav
  obtain ⟨i1, i2⟩ := ck_ent_ints h2 hav
  have hslots := ck_slots e1
  have hl := lv_entry vs (n := M.2.2.1) (by omega)
  rw [lg_entry_eq]
  generalize (lg_sl vs ++ List.replicate (M.2.2.1 - (lg_sl vs).length) Slot.unset).toArray = ls at hl ⊢
  have hvals := ck_ent_vals (st := st) (ws := ws) (ys := ck_ints vs) (N := (ck_entI co.2.2.1).length) (j := 0) (k := 0) h2 hav (fun i => by rw [Nat.zero_add]) (fun i x hi => by rw [Nat.zero_add]; exact hi) (by omega)
  have hG : ck_G D cl st sh (va_A ws s.heap.size) s M.2.2.1 co.2.2.2.2.1 ws (ck_entI co.2.2.1) (ck_entL 0 0 co.2.2.1) [] co.2.2.2.1 co.2.1 (ck_nu (ck_ints vs)) ws tys s.heap [] ls [] := by
    refine ⟨fun j q hq => ?_, ⟨_, hl, hvals⟩, trivial, hgd, hw, hK, hP, hD0.self, va_S.rf, ck_fr.rf⟩
    obtain ⟨b0, x, b1, b2, b3⟩ := i2 j q hq
    have ev : ck_nu (ck_ints vs) j = x.toInt := by unfold ck_nu; rw [b1]
    rw [ev]
    exact ⟨b2, b3, fun z => by omega, fun z => by omega⟩
  refine ck_run_ok (n0 := (ck_entI co.2.2.1).length) (ν0 := ck_nu (ck_ints vs)) ?_ (fun x hx => by cases hx) fuel [] _ 0 _ h4 (ck_nu (ck_ints vs)) ws tys s.heap [] ls [] (Nat.le_refl _) (fun _ _ => rfl) (fun g hg => by cases hg) hG
  intro n pc I L S X nc mc ms xs ν ws1 tys1 H1 locs1 ls1 vs1 hst hn hν hG1 K
  refine ck_step_ok hx hb hml hown hts hgood hamb hC (hT M hM) hCs (fun q hq => Or.inr hq) (fun hi => ?_) rfl rfl rfl rfl (fun i hd hrr hGG => ?_) hst hn hG1 K
  · have hname : M.1.name = "<init>" := of_decide_eq_true hi
    rw [← hname]
    exact (name_of_methodNamed B.named B.method).1
  · refine ck_ret_ok (as := vs) hx hb hr hlocks i1.symm hd hrr (fun j x hj => ?_) hGG
    have hjl : j < (ck_entI co.2.2.1).length := by rw [i1]; exact (List.getElem?_eq_some_iff.mp hj).1
    rw [hν j hjl]
    unfold ck_nu
    rw [hj]
end CKH
