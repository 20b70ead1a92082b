/-! THE TABLE RUN, 8: the call itself, the copy of rows, the first constructor -/
section CKI
variable {p : Program} {l : Launch} {e : Env} {R : Room} {s : State} {m : MethodId} {args : Array Value} {below : List Frame} {meth : Method} {c : Code} {Q : State → Prop}
variable {cc : ByteArray} {D : va_G} {cl : List vw_C} {st : Nat → Nat} {sh : List ck_Sh} {A : Nat → Prop} {nL : Nat} {wr : List (Nat × Nat)} {ws0 : va_W}
variable {I I' : List ck_I} {L : List (Nat × ck_V)} {S S' : List ck_V} {X : ck_D} {nc mc ms n : Nat} {ν ν' : Nat → Int} {ws : va_W} {tys : List (ClassId × FieldType)} {H : Heap} {locs : List Loc} {ls : Array Slot} {vs vs' : List Value} {pc : Nat}
variable {Ts : List Cond} {AO : List String} {own : String} {NM : List (String × Nat × MethodName × String)} {SL : List (String × Nat × Nat)} {mts : List ck_MT}
def ck_inv (i : Instr × Nat) : Option (Nat × Nat) := match i with
  | (.invokevirtual x, 3) => some (x, 0)
  | (.invokestatic x, 3) => some (x, 1)
  | (.invokespecial x, 3) => some (x, 2)
  | _ => none
def ck_fitC (co : ck_C) (I : List ck_I) (S : List ck_V) (X : ck_D) (nc : Nat) : Bool := decide (co.2.1 = nc) && ck_avb I (S.take co.2.2.1.length).reverse co.2.2.1 && ck_subD X co.2.2.2.1
/-- the callee's own object: its cell, and that it is of the class that the method is of -/
def ck_self (cl : List vw_C) (sh : List ck_Sh) (M : ck_MT) (o : Nat) (Vs : List ck_V) : Bool := match o, Vs with
  | 1, Vs => decide (Vs.length = M.2.2.2.2)
  | 0, .inr (0, i) :: Vs => decide (Vs.length = M.2.2.2.2) && (match ck_obj sh i with
    | some ob => (match cl[ob.1]? with
      | some r => decide (r.1 = M.1.cls)
      | none => false)
    | none => false)
  | 2, .inr (0, _) :: Vs => decide (Vs.length = M.2.2.2.2)
  | _, _ => false
theorem ck_self0 {M : ck_MT} : ∀ {Vs : List ck_V}, ck_self cl sh M 0 Vs = true → ∃ Us i0, Vs = .inr (0, i0) :: Us ∧ Us.length = M.2.2.2.2 ∧ ∃ ob, ck_obj sh i0 = some ob ∧ ∃ r0, cl[ob.1]? = some r0 ∧ r0.1 = M.1.cls
  | .inr (0, i0) :: Us, h => by
    simp only [ck_self, Bool.and_eq_true, decide_eq_true_eq] at h
    obtain ⟨h1, h2⟩ := h
    split at h2
    · rename_i ob hob
      split at h2
      · rename_i r0 hr0
        exact ⟨Us, i0, rfl, h1, ob, hob, r0, hr0, of_decide_eq_true h2⟩
      · cases h2
    · cases h2
  | [], h => by simp [ck_self] at h
  | .inl _ :: _, h => by simp [ck_self] at h
  | .inr (_ + 1, _) :: _, h => by simp [ck_self] at h
theorem ck_self2 {M : ck_MT} : ∀ {Vs : List ck_V}, ck_self cl sh M 2 Vs = true → ∃ Us i0, Vs = .inr (0, i0) :: Us ∧ Us.length = M.2.2.2.2
  | .inr (0, i0) :: Us, h => ⟨Us, i0, rfl, of_decide_eq_true h⟩
  | [], h => by simp [ck_self] at h
  | .inl _ :: _, h => by simp [ck_self] at h
  | .inr (_ + 1, _) :: _, h => by simp [ck_self] at h
def ck_cal (cl : List vw_C) (mts : List ck_MT) (ml : List (Nat × Nat × Nat)) (cs : List ck_C) (sh : List ck_Sh) (wr : List (Nat × Nat)) (CM SM FM LM : Nat) (pc : Nat) (i : Instr × Nat) (I : List ck_I) (L : List (Nat × ck_V)) (S : List ck_V) (X : ck_D) (k : Nat × Nat × Nat) : Option (List (Nat × ck_S)) := match ck_inv i with
  | none => none
  | some xo => match ml.find? (fun q => q.1 == xo.1) with
    | none => none
    | some q => match mts[q.2.2]? with
      | none => none
      | some M => match cs.find? (fun co => decide (co.1 = q.2.2) && ck_fitC co I S X k.1) with
        | none => none
        | some co => if q.2.1 < 6 ∧ q.2.1 % 3 = xo.2 ∧ ck_self cl sh M xo.2 (S.take co.2.2.1.length).reverse = true ∧ (S.take co.2.2.1.length).all ck_one = true ∧ (S.drop co.2.2.1.length).all ck_one = true ∧ (S.drop co.2.2.1.length).length ≤ 8 ∧ co.2.2.2.2.2.2.1 + 1 ≤ FM ∧ 8 + (M.2.2.1 + 11) + co.2.2.2.2.2.2.2.1 ≤ LM ∧ k.2.1 + co.2.2.2.2.2.2.2.2.1 ≤ CM ∧ k.2.2 + co.2.2.2.2.2.2.2.2.2 ≤ SM ∧ co.2.2.2.2.1.all (fun x => wr.contains x) = true then ck_ends co pc (ck_forms (S.take co.2.2.1.length).reverse) I L (S.drop co.2.2.1.length) X k co.2.2.2.2.2.1 else none
theorem ck_cal_ok {ml : List (Nat × Nat × Nat)} {cs : List ck_C} {CM SM FM LM : Nat} {i : Instr × Nat} {xs : List (Nat × ck_S)} (hx : p.tables.exec = Jvm.exec) (hb : c.code = cc) (hml : c.maxLocals = nL) (hown : s.vm.findClass own = some m.cls) (hts : ∀ w ∈ Ts, w.before args s = true) (hgood : GoodIn Ts Ts) (hamb : ck_amb NM AO SL st s) (hL : ∀ q ∈ ml, q.2.1 < 6 → ck_okL Ts NM mts own q) (hCs : ∀ co ∈ cs, ck_Met l Ts mts D cl NM AO SL st sh co) (hA : ∀ q, s.heap.size ≤ q → A q) (hRc : R.cells = CM) (hRs : R.slots = SM) (hRf : R.frames = FM) (hRl : R.locals = LM) (hd : decode cc pc = .ok i) (h : ck_cal cl mts ml cs sh wr CM SM FM LM pc i I L S X (nc, mc, ms) = some xs) (hn : n ≤ I.length) (hG : ck_G D cl st sh A s nL wr ws0 I L S X nc ν ws tys H locs ls vs)
    (K : ∀ x ∈ xs, ck_N p l e R s m args below meth c Q D cl st sh A nL wr ws0 n ν x) : W p l e R s m args below meth c H locs mc ms Q (F0 m pc ls vs) := by
  have hK := hG.2.2.2.2.2.1
  have hP := hG.2.2.2.2.2.2.1
  have hD := hG.2.2.2.2.2.2.2.1
  unfold ck_cal at h
  split at h
  · cases h
  · rename_i xo hxo
    split at h
    · cases h
    · rename_i q hq
      split at h
      · cases h
      · rename_i M hM
        split at h
        · cases h
        · rename_i co hco
          split at h
          · rename_i hc
            obtain ⟨c0, c1, c2, c3, c4, c5, c6, c7, c8, c9, c10⟩ := hc
            obtain ⟨hmem, e1⟩ := ck_found hq
            have hcm := List.mem_of_find?_eq_some hco
            have hcf := List.find?_some hco
            simp only [Bool.and_eq_true, decide_eq_true_eq, ck_fitC] at hcf
            obtain ⟨hmt, ⟨hnc, hav⟩, hsd⟩ := hcf
            obtain ⟨M', hM', w1, w2, w3, w4, w5⟩ := hL q hmem c0
            have eM : M' = M := Option.some.inj (hM'.symm.trans hM)
            subst eM
            have hgs := hG.gs
            rw [← List.take_append_drop co.2.2.1.length S] at hgs
            obtain ⟨ar, rest, hvs, ga, gr⟩ := hgs.split
            subst hvs
            have gas := ga.rev
            have hone : ((S.take co.2.2.1.length).reverse).all ck_one = true := by rw [List.all_reverse]; exact c3
            have hG' := hG.stk gr
            have hwords := ck_words c4 gr
            have hMet := hCs co hcm M' (by rw [hmt]; exact hM') ws tys ar.reverse H.size (by rw [hnc]; exact hG.2.2.2.2.1) (ck_avb_ok hav hG.gi gas) (ck_subD_ok hsd hG.2.2.2.1)
            have hwr : ∀ x ∈ co.2.2.2.2.1, x ∈ wr := fun x hx => List.contains_iff_mem.mp (List.all_eq_true.mp c10 x hx)
            have hGI : GoodIn Ts (Cond.code M'.1 M'.2.1 M'.2.2.1 M'.2.2.2.1 :: Ts) := fun w hw => by
              rcases List.mem_cons.mp hw with rfl | hw
              · exact hgood _ w1
              · exact hgood _ hw
            have hpre : ∀ U : State, U.heap = H → s.WarmedH U.vm → va_Pc ar.reverse (ck_Pre D cl NM AO SL st tys ws H.size) ar.reverse.toArray U := fun U hU hW => ⟨rfl, by rw [hU], by rw [hU]; exact hP, va_K.moved hW.alike hK, hD.weaken (fun _ _ _ _ => trivial), hamb.warm hW⟩
            have hfit : mc + co.2.2.2.2.2.2.2.2.1 ≤ R.cells ∧ ms + co.2.2.2.2.2.2.2.2.2 ≤ R.slots := ⟨by rw [hRc]; exact c8, by rw [hRs]; exact c9⟩
            have hroom : (ck_rm co).frames + 1 ≤ R.frames ∧ 8 + (M'.2.2.1 + 11) + (ck_rm co).locals ≤ R.locals := ⟨by rw [hRf]; exact c6, by rw [hRl]; exact c7⟩
            have hsz : ls.size = nL := by obtain ⟨lv, hl, -⟩ := hG.2.1; exact hl.1
            have hwd : (rest.map fun v => v.category).sum ≤ 8 := by rw [hwords]; exact c5
            have hst : ∀ (b : Addr) (As : List Value), ar.reverse = .ref b :: As → ar ++ rest = As.reverse ++ .ref b :: rest := fun b As hh => by
              have h1 : ar = (Value.ref b :: As).reverse := by rw [← hh, List.reverse_reverse]
              rw [h1]; simp
            have B : ∀ (y : Nat), CallB R s args own y M'.1 M'.2.1 M'.2.2.1 M'.2.2.2.1 (Cond.code M'.1 M'.2.1 M'.2.2.1 M'.2.2.2.1 :: Ts) (ck_rm co) co.2.2.2.2.2.2.2.2.1 co.2.2.2.2.2.2.2.2.2 M'.2.2.2.2 ∨ ¬ Cond.methodLink own y M'.1 ∈ Ts := fun y => by
              by_cases hm : Cond.methodLink own y M'.1 ∈ Ts
              · exact Or.inl (callB_of M'.2.2.2.2 hts hGI rfl rfl rfl (hts _ w2) (hts _ hm) ⟨w3.1, w3.2, w4⟩ hroom)
              · exact Or.inr hm
            have BN : ∀ (y : Nat) (host : String), (own, y, M'.1, host) ∈ NM → va_CN R s args own y M'.1 host M'.2.1 M'.2.2.1 M'.2.2.2.1 (Cond.code M'.1 M'.2.1 M'.2.2.1 M'.2.2.2.1 :: Ts) (ck_rm co) co.2.2.2.2.2.2.2.2.1 co.2.2.2.2.2.2.2.2.2 M'.2.2.2.2 := fun y host hm => va_cnB M'.2.2.2.2 hts hGI rfl rfl rfl (hamb.1 _ hm) (hts _ w2) ⟨w3.1, w3.2, w4⟩ hroom
            have hfix : CallFix p m c cc nL s args Ts own := ⟨hx, hb, hml, hown, hts⟩
            unfold ck_inv at hxo
            split at hxo
            · cases hxo
              dsimp only at c1 c2 e1
              obtain ⟨Vs, i0, hV, hlenV, ob, hob, r0, hr0, hcls⟩ : ∃ Vs i0, (S.take co.2.2.1.length).reverse = .inr (0, i0) :: Vs ∧ Vs.length = M'.2.2.2.2 ∧ ∃ ob, ck_obj sh i0 = some ob ∧ ∃ r0, cl[ob.1]? = some r0 ∧ r0.1 = M'.1.cls := ck_self0 c2
              have gas2 := gas
              rw [hV] at gas2
              obtain ⟨v, As, hA1, ⟨⟨b, be⟩, hb1, rfl⟩, hA2⟩ := gas2.pop
              obtain ⟨fs, hfs, -⟩ := ck_obj_ok hob hG.2.2.2.2.1 hb1
              dsimp only at hfs
              subst hfs
              have hrec := va_recv hK hP hr0 hb1
              rw [hcls] at hrec
              have hpre2 := hpre
              rw [hA1] at hMet hpre2
              have hlA : As.length = M'.2.2.2.2 := by rw [← hlenV]; exact hA2.len.symm
              rcases (show q.2.1 = 0 ∨ q.2.1 = 3 by omega) with hk0 | hk0
              · rw [hk0] at w5
                obtain ⟨z1, z2, z3⟩ := w5
                rw [e1] at z1
                have cb := (B _).resolve_right (fun z => z z1)
                refine ck_behind (co := co) hone hn gas hG' hwr hA ?_ h K
                rw [hA1]
                exact va_runV hfix hMet ⟨cb, hts _ z2, hts _ z3⟩ ⟨ck_blind, hrec, hpre2⟩ rfl hlA hsz (hst b As hA1) (lv_room hwd) hd hfit
              · rw [hk0] at w5
                obtain ⟨host, z1, z2, z3⟩ := w5
                rw [e1] at z1
                refine ck_behind (co := co) hone hn gas hG' hwr hA ?_ h K
                rw [hA1]
                exact va_runVN hfix hMet ⟨BN _ _ z1, hts _ z2, hts _ z3⟩ ⟨ck_blind, hrec, hpre2⟩ rfl hlA hsz (hst b As hA1) (lv_room hwd) hd hfit
            · cases hxo
              dsimp only at c1 c2 e1
              have hlA : ar.reverse.length = M'.2.2.2.2 := by
                have c3' : (S.take co.2.2.1.length).reverse.length = M'.2.2.2.2 := of_decide_eq_true c2
                rw [← c3']; exact gas.len.symm
              rcases (show q.2.1 = 1 ∨ q.2.1 = 4 by omega) with hk0 | hk0
              · rw [hk0] at w5
                obtain ⟨z1, z2⟩ := w5
                rw [e1] at z1
                have cb := (B _).resolve_right (fun z => z z1)
                exact ck_behind (co := co) hone hn gas hG' hwr hA (va_runS hfix hMet ⟨cb, hts _ z2⟩ ⟨ck_blind, hpre⟩ rfl hlA hsz (by show ar ++ rest = ar.reverse.reverse ++ rest; rw [List.reverse_reverse]) (lv_room hwd) hd hfit) h K
              · rw [hk0] at w5
                obtain ⟨host, z1, z2⟩ := w5
                rw [e1] at z1
                exact ck_behind (co := co) hone hn gas hG' hwr hA (va_runSN hfix hMet ⟨BN _ _ z1, hts _ z2, trivial⟩ ⟨ck_blind, hpre⟩ rfl hlA hsz (by show ar ++ rest = ar.reverse.reverse ++ rest; rw [List.reverse_reverse]) (lv_room hwd) hd hfit) h K
            · cases hxo
              dsimp only at c1 c2 e1
              obtain ⟨Vs, i0, hV, hlenV⟩ : ∃ Vs i0, (S.take co.2.2.1.length).reverse = .inr (0, i0) :: Vs ∧ Vs.length = M'.2.2.2.2 := ck_self2 c2
              have gas2 := gas
              rw [hV] at gas2
              obtain ⟨v, As, hA1, ⟨⟨b, be⟩, hb1, rfl⟩, hA2⟩ := gas2.pop
              have hpre2 := hpre
              rw [hA1] at hMet hpre2
              have hlA : As.length = M'.2.2.2.2 := by rw [← hlenV]; exact hA2.len.symm
              rcases (show q.2.1 = 2 ∨ q.2.1 = 5 by omega) with hk0 | hk0
              · rw [hk0] at w5
                obtain ⟨z1, z2, z3, z4⟩ := w5
                rw [e1] at z1
                have cb := (B _).resolve_right (fun z => z z1)
                rw [z4] at hMet cb
                refine ck_behind (co := co) hone hn gas hG' hwr hA ?_ h K
                rw [hA1]
                exact va_runI hfix hMet ⟨cb, z3, hts _ z2⟩ ⟨ck_blind, hpre2⟩ rfl hlA hsz (hst b As hA1) (lv_room hwd) hd hfit
              · rw [hk0] at w5
                obtain ⟨host, z1, z2, z3, z4⟩ := w5
                rw [e1] at z1
                have cb := BN _ _ z1
                rw [z4] at hMet cb
                refine ck_behind (co := co) hone hn gas hG' hwr hA ?_ h K
                rw [hA1]
                exact va_runIN hfix hMet ⟨cb, z3, hts _ z2⟩ ⟨ck_blind, hpre2⟩ rfl hlA hsz (hst b As hA1) (lv_room hwd) hd hfit
            · cases hxo
          · cases h
end CKI
