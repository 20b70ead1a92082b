/-! A RUN OF TABLES OVER THE PURE MACHINE, 9: a method checked is a method met -/
/-- one step, the instruction being told -/
def ab_stepI (cl : List vw_C) (dt : List (List FieldType)) (mts : List ck_MT) (sh : List ck_Sh) (tr : List (Nat × List ab_P)) (T : mm_T) (cs : List ab_C) (wr : List (Nat × ab_P)) (ini : Bool) (nL CM SM FM LM : Nat) (rt : Instr × Nat → List ck_I → List ck_V → ab_X → Nat × Nat × Nat → Bool) (i : Instr × Nat) (pc : Nat) (I : List ck_I) (L : List (Nat × ck_V)) (S : List ck_V) (X : ab_X) (k : Nat × Nat × Nat) : Option (List (Nat × ab_S)) :=
  match ab_a pc i I L S X k with
  | some xs => some xs
  | none => match ab_b nL pc i I L S X k with
    | some xs => some xs
    | none => match ab_c pc i I L S X k with
      | some xs => some xs
      | none => match ab_d pc i I L S X k with
        | some xs => some xs
        | none => match ab_e pc i I L S X k with
          | some xs => some xs
          | none => match ab_f T.1 dt sh wr ini pc i I L S X k with
            | some xs => some xs
            | none => match ab_ld sh pc i I L S X k with
              | some xs => some xs
              | none => match ab_st cl sh wr pc i I L S X k with
                | some xs => some xs
                | none => match ab_cal cl mts T.2.2.2.2.2.2.2 cs sh wr CM SM FM LM pc i I L S X k with
                  | some xs => some xs
                  | none => match ab_y T.2.2.2.2.2.2.2 sh wr CM SM FM LM pc i I L S X k with
                    | some xs => some xs
                    | none => match ab_x T.2.2.2.2.2.2.2 CM SM FM LM pc i I L S X k with
                      | some xs => some xs
                      | none => match ab_n T.2.1 dt T.2.2.1 T.2.2.2.1 tr sh CM SM pc i I L S X k with
                        | some xs => some xs
                        | none => match ab_ldc T.2.2.2.2.1 T.2.2.2.2.2.2.1 pc i I L S X k with
                          | some xs => some xs
                          | none => if rt i I S X k = true then some [] else none
def ab_step (cl : List vw_C) (dt : List (List FieldType)) (mts : List ck_MT) (sh : List ck_Sh) (tr : List (Nat × List ab_P)) (T : mm_T) (cs : List ab_C) (wr : List (Nat × ab_P)) (ini : Bool) (nL CM SM FM LM : Nat) (rt : Instr × Nat → List ck_I → List ck_V → ab_X → Nat × Nat × Nat → Bool) (cc : ByteArray) (pc : Nat) (I : List ck_I) (L : List (Nat × ck_V)) (S : List ck_V) (X : ab_X) (k : Nat × Nat × Nat) : Option (List (Nat × ab_S)) := match decode cc pc with
  | .ok i => ab_stepI cl dt mts sh tr T cs wr ini nL CM SM FM LM rt i pc I L S X k
  | _ => none
section ABZ
variable {Gh : Nat → (Nat → Int32) → Prop} {sh : List ck_Sh} {wr : List (Nat × ab_P)} {h0 : mm_h} {I I' : List ck_I} {L : List (Nat × ck_V)} {S S' : List ck_V} {X : ab_X} {nc mc ms n : Nat} {ν ν' : Nat → Int} {Lm : List (Nat × mm_v)} {Sm Sm' : List mm_v} {h : mm_h} {pc nL : Nat}
variable {cl : List vw_C} {dt : List (List FieldType)} {mts : List ck_MT} {CM SM FM LM : Nat} {T : mm_T} {cs : List ab_C} {ini : Bool} {cc : ByteArray} {ret : Option FieldType} {Rt : Option mm_v → mm_h → Nat × Nat → Prop} {tr : List (Nat × List ab_P)}
theorem ab_stepI_ok {rt : Instr × Nat → List ck_I → List ck_V → ab_X → Nat × Nat × Nat → Bool} {i : Instr × Nat} {xs : List (Nat × ab_S)} {cms : List mm_C} (hcm : ∀ co ∈ cs, ab_m Gh sh co ∈ cms) (hd : decode cc pc = .ok i) (hh : ab_stepI cl dt mts sh tr T cs wr ini nL CM SM FM LM rt i pc I L S X (nc, mc, ms) = some xs) (hrt : rt i I S X (nc, mc, ms) = true → ab_G Gh sh wr h0 I L S X nc ν Lm Sm h → mm_rt ret Rt i Sm h (mc, ms)) (hn : n ≤ I.length) (hG : ab_G Gh sh wr h0 I L S X nc ν Lm Sm h) (K : ∀ x ∈ xs, ab_K (mm_W cl dt mts T cms ini nL CM SM FM LM cc ret Rt) Gh sh wr h0 n ν x) : mm_W cl dt mts T cms ini nL CM SM FM LM cc ret Rt (pc, Lm, Sm, h, mc, ms) := by
  refine mm_W.of ⟨i, hd, ?_⟩
  unfold ab_stepI at hh
  split at hh
  · rename_i ys hy; cases hh; exact Or.inl (ab_a_ok hy hn hG K)
  split at hh
  · rename_i ys hy; cases hh; exact Or.inr (Or.inl (ab_b_ok hy hn hG K))
  split at hh
  · rename_i ys hy; cases hh; exact Or.inr (Or.inr (Or.inl (ab_c_ok hy hn hG K)))
  split at hh
  · rename_i ys hy; cases hh; exact Or.inr (Or.inr (Or.inr (Or.inl (ab_d_ok hy hG K))))
  split at hh
  · rename_i ys hy; cases hh; exact Or.inr (Or.inr (Or.inr (Or.inr (Or.inl (ab_e_ok hy hG K)))))
  split at hh
  · rename_i ys hy; cases hh; exact Or.inr (Or.inr (Or.inr (Or.inr (Or.inr (Or.inl (ab_f_ok hy hn hG K))))))
  split at hh
  · rename_i ys hy; cases hh; exact Or.inr (Or.inr (Or.inr (Or.inr (Or.inr (Or.inr (Or.inl (ab_ld_ok hy hn hG K)))))))
  split at hh
  · rename_i ys hy; cases hh; exact Or.inr (Or.inr (Or.inr (Or.inr (Or.inr (Or.inr (Or.inr (Or.inl (ab_st_ok hy hG K))))))))
  split at hh
  · rename_i ys hy
    cases hh
    have hc := ab_cal_ok hy hn hG K
    refine Or.inr (Or.inr (Or.inr (Or.inr (Or.inr (Or.inr (Or.inr (Or.inr (Or.inr (Or.inr (Or.inr (Or.inr (Or.inl ?_))))))))))))
    obtain ⟨xo, q, M, co, us, S', h1, h2, h3, h4, h5, h6, h7⟩ := hc
    obtain ⟨co0, k1, k2⟩ := List.mem_map.mp h6
    exact ⟨xo, q, M, co, us, S', h1, h2, h3, h4, h5, by rw [← k2]; exact hcm co0 k1, h7⟩
  split at hh
  · rename_i ys hy; cases hh; exact Or.inr (Or.inr (Or.inr (Or.inr (Or.inr (Or.inr (Or.inr (Or.inr (Or.inr (Or.inr (Or.inl (ab_y_ok hy hn hG K)))))))))))
  split at hh
  · rename_i ys hy; cases hh; exact Or.inr (Or.inr (Or.inr (Or.inr (Or.inr (Or.inr (Or.inr (Or.inr (Or.inr (Or.inr (Or.inr (Or.inl (ab_x_ok hy hn hG K))))))))))))
  split at hh
  · rename_i ys hy; cases hh; exact Or.inr (Or.inr (Or.inr (Or.inr (Or.inr (Or.inr (Or.inr (Or.inr (Or.inl (ab_n_ok hy hG K)))))))))
  split at hh
  · rename_i ys hy; cases hh; exact Or.inr (Or.inr (Or.inr (Or.inr (Or.inr (Or.inr (Or.inr (Or.inr (Or.inr (Or.inl (ab_ldc_ok hy hn hG K))))))))))
  split at hh
  · rename_i hr
    exact Or.inr (Or.inr (Or.inr (Or.inr (Or.inr (Or.inr (Or.inr (Or.inr (Or.inr (Or.inr (Or.inr (Or.inr (Or.inr (hrt hr hG)))))))))))))
  · cases hh
/-- the table at a method's entry -/
def ck_entI : List ck_F → List ck_I
  | [] => []
  | .inl z :: Fs => (z.1, z.2, 0, (0, 0, 0)) :: ck_entI Fs
  | .inr _ :: Fs => ck_entI Fs
def ck_entL : Nat → Nat → List ck_F → List (Nat × ck_V)
  | _, _, [] => []
  | j, k, .inl _ :: Fs => (j, .inl (k, 1, 0)) :: ck_entL (j + 1) (k + 1) Fs
  | j, k, .inr q :: Fs => (j, .inr q) :: ck_entL (j + 1) k Fs
def ck_oneF (F : ck_F) : Bool := match F with
  | .inl _ => true
  | .inr q => ck_one (.inr q)
def ab_check (cl : List vw_C) (dt : List (List FieldType)) (mts : List ck_MT) (sh : List ck_Sh) (tr : List (Nat × List ab_P)) (T : mm_T) (cs : List ab_C) (co : ab_C) (hs : List ab_Hd) (sp : List (Nat × Nat × Int)) (fuel : Nat) : Bool := match mts[co.1]? with
  | none => false
  | some M => plainName M.1.cls && co.2.2.1.all ck_oneF && decide (co.2.2.1.length ≤ M.2.2.1) && ab_run (ab_step cl dt mts sh tr T cs co.2.2.2.2.1 (decide (M.1.name = "<init>")) M.2.2.1 co.2.2.2.2.2.2.2.2.1 co.2.2.2.2.2.2.2.2.2 co.2.2.2.2.2.2.1 co.2.2.2.2.2.2.2.1 (ab_ret co M.2.2.2.1 (ck_entI co.2.2.1).length) M.2.1) hs sp [] fuel [] (ck_entI co.2.2.1).length 0 (ck_entI co.2.2.1, ck_entL 0 0 co.2.2.1, [], (co.2.2.2.1, []), co.2.1, 0, 0)
def ck_nu (xs : List Int32) (j : Nat) : Int := match xs[j]? with
  | some x => x.toInt
  | none => 0
theorem ck_oneF_two {F : ck_F} {v : mm_v} (h1 : ck_oneF F = true) (hv : ab_va h F v) : mm_two v = false := by
  cases F with
  | inl z => obtain ⟨x, rfl, -⟩ := hv; rfl
  | inr q => exact ck_one_two (ν := fun _ => 0) (n := 0) (V := .inr q) h1 hv
theorem ab_ent_wd : ∀ {Fs : List ck_F} {us : List mm_v}, Fs.all ck_oneF = true → ab_av h Fs us → mm_wd us = Fs.length
  | [], [], _, _ => rfl
  | F :: Fs, v :: us, h1, hv => by
    simp only [List.all_cons, Bool.and_eq_true] at h1
    have ih := ab_ent_wd h1.2 hv.2
    unfold mm_wd at ih ⊢
    rw [List.map_cons, List.sum_cons, ih, ck_oneF_two h1.1 hv.1, List.length_cons]
    simp
    omega
  | [], _ :: _, _, hv => hv.elim
  | _ :: _, [], _, hv => hv.elim
theorem ab_ent_ints : ∀ {Fs : List ck_F} {us : List mm_v}, Fs.all ck_oneF = true → ab_av h Fs us → (ck_entI Fs).length = (mm_ints us).length ∧ ∀ (j : Nat) (q : ck_I), (ck_entI Fs)[j]? = some q → q.2.2.1 = 0 ∧ ∃ x, (mm_ints us)[j]? = some x ∧ q.1 ≤ x.toInt ∧ x.toInt ≤ q.2.1
  | [], [], _, _ => ⟨rfl, fun j q h => by simp [ck_entI] at h⟩
  | .inl z :: Fs, v :: us, h1, hv => by
    simp only [List.all_cons, Bool.and_eq_true] at h1
    obtain ⟨⟨x, rfl, z1, z2⟩, h2⟩ := hv
    obtain ⟨a1, a2⟩ := ab_ent_ints h1.2 h2
    refine ⟨by simp [ck_entI, mm_ints, a1], fun j q hq => ?_⟩
    match j, hq with
    | 0, hq =>
      have e : ((z.1, z.2, 0, (0, 0, 0)) : ck_I) = q := by simpa [ck_entI] using hq
      subst e
      exact ⟨rfl, x, rfl, z1, z2⟩
    | j + 1, hq =>
      obtain ⟨b0, y, b1, b2⟩ := a2 j q (by simpa [ck_entI] using hq)
      exact ⟨b0, y, by simpa [mm_ints] using b1, b2⟩
  | .inr q :: Fs, v :: us, h1, hv => by
    simp only [List.all_cons, Bool.and_eq_true] at h1
    obtain ⟨hq, h2⟩ := hv
    obtain ⟨a1, a2⟩ := ab_ent_ints h1.2 h2
    rw [mm_ints_rf (ck_one_rf h1.1 hq)]
    exact ⟨a1, a2⟩
  | [], _ :: _, _, hv => hv.elim
  | _ :: _, [], _, hv => hv.elim
theorem mm_get_ent {j : Nat} {v : mm_v} {us : List mm_v} : mm_get (mm_ent j (v :: us)) j = some v := by
  unfold mm_get
  show (List.find? _ ((j, v) :: _)).map _ = _
  rw [List.find?_cons_of_pos (by simp)]
  rfl
theorem mm_ent_ge : ∀ {us : List mm_v} {j : Nat}, ∀ q ∈ mm_ent j us, j ≤ q.1
  | [], _, q, hq => by cases hq
  | v :: us, j, q, hq => by
    rcases List.mem_cons.mp hq with rfl | hq
    · exact Nat.le_refl _
    · have := mm_ent_ge q hq
      split at this <;> omega
theorem ab_ent_vals {ys : List Int32} {N : Nat} : ∀ {Fs : List ck_F} {us : List mm_v} {j k : Nat}, Fs.all ck_oneF = true → ab_av h Fs us → (∀ i x, (mm_ints us)[i]? = some x → ys[k + i]? = some x) → ys.length ≤ N → ab_gl (ck_nu ys) h N (ck_entL j k Fs) (mm_ent j us)
  | [], [], _, _, _, _, _, _ => fun q hq => by cases hq
  | .inl z :: Fs, v :: us, j, k, h1, hv, hy, hN => by
    simp only [List.all_cons, Bool.and_eq_true] at h1
    obtain ⟨⟨x, rfl, z1, z2⟩, h2⟩ := hv
    have ih := ab_ent_vals (ys := ys) (N := N) (j := j + 1) (k := k + 1) h1.2 h2 (fun i y hi => by have := hy (i + 1) y (by simpa [mm_ints] using hi); rw [← this]; congr 1; omega) hN
    intro q hq
    rcases List.mem_cons.mp hq with rfl | hq
    · have hx : ys[k]? = some x := by simpa using hy 0 x rfl
      have hl := (List.getElem?_eq_some_iff.mp hx).1
      refine ⟨mm_I x, mm_get_ent, Or.inr (by show k < N; omega), x, rfl, ?_⟩
      simp [ck_ev, ck_nu, hx]
    · obtain ⟨w, a1, a2⟩ := ih q hq
      refine ⟨w, ?_, a2⟩
      have hm := mm_get_mem a1
      have hge := mm_ent_ge _ hm
      unfold mm_get at a1 ⊢
      show (List.find? _ ((j, mm_I x) :: mm_ent (j + 1) us)).map _ = _
      rw [List.find?_cons_of_neg (by simp; omega)]
      exact a1
  | .inr r :: Fs, v :: us, j, k, h1, hv, hy, hN => by
    simp only [List.all_cons, Bool.and_eq_true] at h1
    obtain ⟨hr, h2⟩ := hv
    have hrf := ck_one_rf h1.1 hr
    rw [mm_ints_rf hrf] at hy
    have ih := ab_ent_vals (ys := ys) (N := N) (j := j + 1) (k := k) h1.2 h2 hy hN
    have htwo := mm_rf_two hrf
    intro q hq
    rcases List.mem_cons.mp hq with rfl | hq
    · exact ⟨v, mm_get_ent, hr⟩
    · obtain ⟨w, a1, a2⟩ := ih q hq
      refine ⟨w, ?_, a2⟩
      have hm := mm_get_mem a1
      have hge := mm_ent_ge _ hm
      unfold mm_get at a1 ⊢
      show (List.find? _ ((j, v) :: mm_ent (if mm_two v = true then j + 2 else j + 1) us)).map _ = _
      rw [htwo, List.find?_cons_of_neg (by simp; omega)]
      exact a1
  | [], _ :: _, _, _, _, hv, _, _ => hv.elim
  | _ :: _, [], _, _, _, hv, _, _ => hv.elim
variable {Ts : List Cond} {AO : List String} {NM : List (String × Nat × MethodName × String)} {SL : List (String × Nat × Nat)} {D : va_G} {st : Nat → Nat}
theorem ab_sound {co : ab_C} {hs : List ab_Hd} {sp : List (Nat × Nat × Int)} {fuel : Nat} (l : Launch) (hgood : GoodIn Ts Ts) (hC : ck_okC cl Ts) (hDt : ck_okD cl dt) {M0 : ck_MT} (hM0 : mts[co.1]? = some M0) (hT : mm_okT cl Ts NM AO SL mts M0.1.cls T) (hCs : ∀ c ∈ cs, mm_Met l Ts mts D cl dt NM AO SL st (ab_m Gh sh c)) (hh : ab_check cl dt mts sh tr T cs co hs sp fuel = true) : mm_Met l Ts mts D cl dt NM AO SL st (ab_m Gh sh co) := by
  unfold ab_check at hh
  rw [hM0] at hh
  simp only [Bool.and_eq_true, decide_eq_true_eq] at hh
  obtain ⟨⟨⟨h1, h2⟩, h3⟩, h4⟩ := hh
  refine mm_sound (T := T) (cs := cs.map (ab_m Gh sh)) l hgood hC hDt hM0 h1 hT (fun c hc => ?_) (fun us h hin hpre => ?_)
  · obtain ⟨c0, k1, k2⟩ := List.mem_map.mp hc
    rw [← k2]
    exact hCs c0 k1
  · obtain ⟨p1, p2, p3⟩ := hpre
    obtain ⟨i1, i2⟩ := ab_ent_ints h2 p2
    refine ⟨by rw [ab_ent_wd h2 p2]; exact h3, ?_⟩
    have hG : ab_G Gh sh co.2.2.2.2.1 h (ck_entI co.2.2.1) (ck_entL 0 0 co.2.2.1) [] (co.2.2.2.1, []) co.2.1 (ck_nu (mm_ints us)) (mm_ent 0 us) [] h := by
      refine ⟨fun j q hq => ?_, ab_ent_vals h2 p2 (fun i x hi => by rw [Nat.zero_add]; exact hi) (by omega), trivial, p3, (fun q hq => by cases hq), p1, ab_fr.rf⟩
      obtain ⟨b0, x, b1, b2, b3⟩ := i2 j q hq
      have ev : ck_nu (mm_ints us) j = x.toInt := by unfold ck_nu; rw [b1]
      rw [ev]
      exact ⟨b2, b3, fun z => by omega, fun z => by omega⟩
    refine ab_run_ok (Wp := mm_W cl dt mts T (cs.map (ab_m Gh sh)) (decide (M0.1.name = "<init>")) M0.2.2.1 (ab_m Gh sh co).2.1.2.2.1 (ab_m Gh sh co).2.1.2.2.2 (ab_m Gh sh co).2.1.1 (ab_m Gh sh co).2.1.2.1 M0.2.1 M0.2.2.2.1 (fun r h' k => h.1 ≤ h'.1 ∧ k.1 ≤ (ab_m Gh sh co).2.1.2.2.1 ∧ k.2 ≤ (ab_m Gh sh co).2.1.2.2.2 ∧ (ab_m Gh sh co).2.2.2 us h r h')) (n0 := (ck_entI co.2.2.1).length) (ν0 := ck_nu (mm_ints us)) ?_ (fun x hx => by cases hx) fuel [] _ 0 _ h4 (ck_nu (mm_ints us)) (mm_ent 0 us) [] h (Nat.le_refl _) (fun _ _ => rfl) (fun g hg => by cases hg) hG
    intro n pc I L S X nc mc ms xs ν Lm Sm h' hst hn hν hG1 K
    unfold ab_step at hst
    split at hst
    · rename_i i hd
      refine ab_stepI_ok (fun c hc => List.mem_map.mpr ⟨c, hc, rfl⟩) hd hst (fun hr hGG => ab_ret_ok hr i1.symm (fun j x hj => ?_) hGG) hn hG1 K
      have hjl : j < (ck_entI co.2.2.1).length := by rw [i1]; exact (List.getElem?_eq_some_iff.mp hj).1
      rw [hν j hjl]
      unfold ck_nu
      rw [hj]
    · cases hst
end ABZ
