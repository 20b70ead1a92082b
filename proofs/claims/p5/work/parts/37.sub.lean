/-! fewer places of the frame told: what goes well with them goes well with more -/
def mm_sub (L L' : List (Nat × mm_v)) : Prop := ∀ q ∈ L', mm_get L q.1 = some q.2
theorem mm_sub.get {L L' : List (Nat × mm_v)} (h : mm_sub L L') {j : Nat} {v : mm_v} (hj : mm_get L' j = some v) : mm_get L j = some v := h (j, v) (mm_get_mem hj)
theorem mm_find_filter {p : Nat × mm_v → Bool} {j : Nat} {v : mm_v} : ∀ {L : List (Nat × mm_v)}, mm_get L j = some v → p (j, v) = true → mm_get (L.filter p) j = some v
  | [], h, _ => by cases h
  | q :: L, h, hp => by
    unfold mm_get at h ⊢
    rw [List.find?_cons] at h
    by_cases hq : q.1 == j
    · rw [hq] at h
      have e : q = (j, v) := by
        have e1 : q.1 = j := by simpa using hq
        have e2 : q.2 = v := Option.some.inj h
        rw [← e1, ← e2]
      rw [e, List.filter_cons, hp, if_pos rfl, List.find?_cons]
      simp
    · have hq' : (q.1 == j) = false := by simpa using hq
      rw [hq'] at h
      have ih := mm_find_filter (p := p) (L := L) h hp
      unfold mm_get at ih
      rw [List.filter_cons]
      by_cases hpq : p q = true
      · rw [if_pos hpq, List.find?_cons, hq']
        exact ih
      · rw [if_neg hpq]
        exact ih
theorem mm_sub.flt {L L' : List (Nat × mm_v)} (h : mm_sub L L') (j : Nat) (v : mm_v) (p : Nat × mm_v → Bool) (hp : ∀ q, p q = true → (q.1 == j) = false) : mm_sub ((j, v) :: L.filter p) ((j, v) :: L'.filter p) := fun q hq => by
  rcases List.mem_cons.mp hq with e | hm
  · rw [e]
    simp [mm_get]
  · obtain ⟨m1, m2⟩ := List.mem_filter.mp hm
    have g := mm_find_filter (p := p) (h q m1) m2
    have ne := hp q m2
    unfold mm_get at g ⊢
    rw [List.find?_cons]
    have ne' : (j == q.1) = false := by
      have : q.1 ≠ j := by simpa using ne
      simpa using fun e : j = q.1 => this e.symm
    rw [ne']
    exact g
theorem mm_sub.put {L L' : List (Nat × mm_v)} (h : mm_sub L L') (j : Nat) (v : mm_v) : mm_sub (mm_put L j v) (mm_put L' j v) := h.flt j v _ (fun q hq => by
  simp only [Bool.and_eq_true, Bool.not_eq_true'] at hq
  exact hq.1)
theorem mm_sub.put2 {L L' : List (Nat × mm_v)} (h : mm_sub L L') (j : Nat) (v : mm_v) : mm_sub (mm_put2 L j v) (mm_put2 L' j v) := h.flt j v _ (fun q hq => by
  simp only [Bool.and_eq_true, Bool.not_eq_true'] at hq
  exact hq.1)
section MMT
variable {cc : ByteArray} {cl : List vw_C} {dt : List (List FieldType)} {nL : Nat} {mts : List ck_MT} {pc : Nat} {i : Instr × Nat} {L L' : List (Nat × mm_v)} {S : List mm_v} {h : mm_h} {k : Nat × Nat} {N : mm_s → Prop}
/-- the same with more told -/
def mm_sb (N : mm_s → Prop) (z : mm_s) : Prop := ∃ L', N (z.1, L', z.2.2) ∧ mm_sub z.2.1 L'
theorem mm_a_sub (hs : mm_sub L L') (hi : mm_a pc i L' S h k N) : mm_a pc i L S h k (mm_sb N) := by
  unfold mm_a at hi ⊢
  split at hi
  · exact ⟨L', hi, hs⟩
  · exact ⟨L', hi, hs⟩
  · exact ⟨L', hi, hs⟩
  · exact ⟨L', hi, hs⟩
  · exact ⟨L', hi, hs⟩
  · exact hi.elim fun x q => ⟨x, hs.get q.1, L', q.2, hs⟩
  · exact hi.elim fun x q => ⟨x, hs.get q.1, L', q.2, hs⟩
  · exact hi.elim fun x q => ⟨x, hs.get q.1, L', q.2, hs⟩
  · exact hi.elim fun x q => ⟨x, hs.get q.1, L', q.2, hs⟩
  · exact hi.elim fun x q => ⟨x, hs.get q.1, q.2.1, L', q.2.2, hs⟩
  · exact hi.elim fun x q => ⟨x, hs.get q.1, q.2.1, L', q.2.2, hs⟩
  · exact hi.elim
theorem mm_b_sub (hs : mm_sub L L') (hi : mm_b nL pc i L' S h k N) : mm_b nL pc i L S h k (mm_sb N) := by
  unfold mm_b at hi ⊢
  split at hi
  · exact ⟨hi.1, _, hi.2, hs.put _ _⟩
  · exact ⟨hi.1, _, hi.2, hs.put _ _⟩
  · exact ⟨hi.1, _, hi.2, hs.put2 _ _⟩
  · exact ⟨hi.1, _, hi.2, hs.put2 _ _⟩
  · exact ⟨hi.1, hi.2.1, _, hi.2.2, hs.put _ _⟩
  · exact ⟨hi.1, hi.2.1, _, hi.2.2, hs.put _ _⟩
  · exact ⟨hi.1, hi.2.elim fun x q => ⟨x, hs.get q.1, _, q.2, hs.put _ _⟩⟩
  · exact hi.elim
theorem mm_c_sub (hs : mm_sub L L') (hi : mm_c pc i L' S h k N) : mm_c pc i L S h k (mm_sb N) := by
  unfold mm_c at hi ⊢
  split at hi
  all_goals first | exact ⟨L', hi, hs⟩ | exact ⟨hi.1, L', hi.2, hs⟩ | exact hi.elim | skip
  obtain ⟨o, e, q⟩ := hi
  unfold mm_bop at e
  split at e
  all_goals first | exact ⟨o, e, L', q, hs⟩ | (cases e)
theorem mm_d_sub (hs : mm_sub L L') (hi : mm_d pc i L' S h k N) : mm_d pc i L S h k (mm_sb N) := by
  unfold mm_d at hi ⊢
  split at hi
  all_goals first | exact ⟨hi.1, L', hi.2, hs⟩ | exact ⟨hi.1, hi.2.1, L', hi.2.2, hs⟩ | exact hi.elim
theorem mm_e_sub (hs : mm_sub L L') (hi : mm_e pc i L' S h k N) : mm_e pc i L S h k (mm_sb N) := by
  unfold mm_e at hi ⊢
  split at hi
  · exact ⟨hi.1, fun c => ⟨L', hi.2.1 c, hs⟩, fun c => ⟨L', hi.2.2 c, hs⟩⟩
  · exact ⟨hi.1, fun c => ⟨L', hi.2.1 c, hs⟩, fun c => ⟨L', hi.2.2 c, hs⟩⟩
  · exact ⟨hi.1, L', hi.2, hs⟩
  · exact ⟨hi.1, fun c => ⟨L', hi.2.1 c, hs⟩, fun c => ⟨L', hi.2.2 c, hs⟩⟩
  · exact ⟨hi.1, fun c => ⟨L', hi.2.1 c, hs⟩, fun c => ⟨L', hi.2.2 c, hs⟩⟩
  · exact ⟨hi.1, hi.2.1, fun c => ⟨L', hi.2.2.1 c, hs⟩, fun j o a b => ⟨(hi.2.2.2 j o a b).1, L', (hi.2.2.2 j o a b).2, hs⟩⟩
  · exact hi.elim
theorem mm_f_sub {fl : List ck_FL} {ini : Bool} (hs : mm_sub L L') (hi : mm_f fl dt ini pc i L' S h k N) : mm_f fl dt ini pc i L S h k (mm_sb N) := by
  unfold mm_f at hi ⊢
  split at hi
  · obtain ⟨q, n, tl, t, e1, e2, e3, e4, e5, e6⟩ := hi
    exact ⟨q, n, tl, t, e1, e2, e3, e4, e5, L', e6, hs⟩
  · obtain ⟨q, n, tl, e1, e2, e3, e4, e5, e6, e7, e8, e9, e10⟩ := hi
    exact ⟨q, n, tl, e1, e2, e3, e4, e5, e6, e7, e8, e9, L', e10, hs⟩
  · obtain ⟨q, n, tl, e1, e2, e3, e4, e5, e6, e7, e8⟩ := hi
    exact ⟨q, n, tl, e1, e2, e3, e4, e5, e6, e7, L', e8, hs⟩
  · exact hi.elim
theorem mm_ld_sub (hs : mm_sub L L') (hi : mm_ld pc i L' S h k N) : mm_ld pc i L S h k (mm_sb N) := by
  unfold mm_ld at hi ⊢
  split at hi
  · exact ⟨hi.1, hi.2.elim fun n q => ⟨n, q.1, q.2.1, q.2.2.1, L', q.2.2.2, hs⟩⟩
  · exact ⟨hi.1, hi.2.elim fun n q => ⟨n, q.1, q.2.1, q.2.2.1, L', q.2.2.2, hs⟩⟩
  · obtain ⟨e1, C, n, e2, e3, e4, e5⟩ := hi
    exact ⟨e1, C, n, e2, e3, e4, L', e5, hs⟩
  · exact ⟨hi.1, hi.2.elim fun n q => ⟨n, q.1, q.2.1, q.2.2.1, fun y => ⟨L', q.2.2.2 y, hs⟩⟩⟩
  · exact ⟨hi.1, hi.2.elim fun r q => ⟨r, q.1, L', q.2, hs⟩⟩
  · exact hi.elim
theorem mm_sw_sub (hs : mm_sub L L') (hi : mm_sw cl pc i L' S h k N) : mm_sw cl pc i L S h k (mm_sb N) := by
  unfold mm_sw at hi ⊢
  split at hi
  · exact ⟨hi.1, hi.2.elim fun n q => ⟨n, q.1, q.2.1, q.2.2.1, L', q.2.2.2, hs⟩⟩
  · obtain ⟨e1, t, n, e2, e3, e4, e5, e6⟩ := hi
    exact ⟨e1, t, n, e2, e3, e4, e5, L', e6, hs⟩
  · exact ⟨hi.1, hi.2.elim fun n q => ⟨n, q.1, q.2.1, q.2.2.1, L', q.2.2.2, hs⟩⟩
  · obtain ⟨e1, C, n, e2, e3, e4, e5⟩ := hi
    exact ⟨e1, C, n, e2, e3, e4, L', e5, hs⟩
  · obtain ⟨e1, e2, r, o, n, e3, e4, e5, e6, e7, e8⟩ := hi
    exact ⟨e1, e2, r, o, n, e3, e4, e5, e6, e7, L', e8, hs⟩
  · exact hi.elim
theorem mm_n_sub {nl : List (Nat × Nat)} {ats : List FieldType} {al : List (Nat × String)} {CM SM : Nat} (hs : mm_sub L L') (hi : mm_n nl dt ats al CM SM pc i L' S h k N) : mm_n nl dt ats al CM SM pc i L S h k (mm_sb N) := by
  unfold mm_n at hi ⊢
  split at hi
  · obtain ⟨q, tl, e1, e2, e3, e4, e5, e6⟩ := hi
    exact ⟨q, tl, e1, e2, e3, e4, e5, L', e6, hs⟩
  · obtain ⟨e1, e2, e3, e4, e5, e6, e7⟩ := hi
    exact ⟨e1, e2, e3, e4, e5, e6, L', e7, hs⟩
  · obtain ⟨q, e1, e2, e3, e4, e5, e6⟩ := hi
    exact ⟨q, e1, e2, e3, e4, e5, L', e6, hs⟩
  · exact hi.elim
theorem mm_k_sub {kl jl : List (Nat × Int)} {sl : List (Nat × Nat)} (hs : mm_sub L L') (hi : mm_k kl jl sl pc i L' S h k N) : mm_k kl jl sl pc i L S h k (mm_sb N) := by
  unfold mm_k at hi ⊢
  split at hi
  · rcases hi with ⟨q, e1, e2⟩ | ⟨q, e1, e2⟩
    · exact Or.inl ⟨q, e1, L', e2, hs⟩
    · exact Or.inr ⟨q, e1, L', e2, hs⟩
  · obtain ⟨q, e1, e2⟩ := hi
    exact ⟨q, e1, L', e2, hs⟩
  · obtain ⟨q, e1, e2⟩ := hi
    exact ⟨q, e1, L', e2, hs⟩
  · exact hi.elim
theorem mm_y_sub {ml : List (Nat × Nat × Nat)} {CM SM FM LM : Nat} (hs : mm_sub L L') (hi : mm_y ml CM SM FM LM pc i L' S h k N) : mm_y ml CM SM FM LM pc i L S h k (mm_sb N) := by
  unfold mm_y at hi ⊢
  split at hi
  · obtain ⟨q, n0, n1, e1, e2, e3, e4, e5, e6, e7, e8, e9, e10, e11, e12, e13, e14⟩ := hi
    exact ⟨q, n0, n1, e1, e2, e3, e4, e5, e6, e7, e8, e9, e10, e11, e12, e13, L', e14, hs⟩
  · obtain ⟨q, e1, e2, e3, e4, e5⟩ := hi
    exact ⟨q, e1, e2, e3, e4, L', e5, hs⟩
  · obtain ⟨q, e1, e2, e3, e4, e5, e6, e7⟩ := hi
    exact ⟨q, e1, e2, e3, e4, e5, e6, L', e7, hs⟩
  · exact hi.elim
theorem mm_x_sub {ml : List (Nat × Nat × Nat)} {CM SM FM LM : Nat} (hs : mm_sub L L') (hi : mm_x ml CM SM FM LM pc i L' S h k N) : mm_x ml CM SM FM LM pc i L S h k (mm_sb N) := by
  unfold mm_x at hi ⊢
  split at hi
  · obtain ⟨q, e1, e2, e3, e4, e5, e6, e7⟩ := hi
    exact ⟨q, e1, e2, e3, e4, e5, e6, L', e7, hs⟩
  · obtain ⟨q, n, e1, e2, e3, e4, e5, e6, e7⟩ := hi
    exact ⟨q, n, e1, e2, e3, e4, e5, e6, L', e7, hs⟩
  · obtain ⟨q, n, e1, e2, e3, e4, e5, e6, e7, e8, e9⟩ := hi
    exact ⟨q, n, e1, e2, e3, e4, e5, e6, e7, e8, fun z => ⟨L', e9 z, hs⟩⟩
  · obtain ⟨q, n, e1, e2, e3, e4, e5, e6, e7, e8⟩ := hi
    exact ⟨q, n, e1, e2, e3, e4, e5, e6, e7, L', e8, hs⟩
  · obtain ⟨q, n, e1, e2, e3, e4, e5⟩ := hi
    exact ⟨q, n, e1, e2, e3, e4, L', e5, hs⟩
  · exact hi.elim
theorem mm_cal_sub {ml : List (Nat × Nat × Nat)} {cs : List mm_C} {CM SM FM LM : Nat} (hs : mm_sub L L') (hi : mm_cal cl mts ml cs CM SM FM LM pc i L' S h k N) : mm_cal cl mts ml cs CM SM FM LM pc i L S h k (mm_sb N) := by
  obtain ⟨xo, q, M, co, us, S', e1, e2, e3, e4, e5, e6, e7, e8, e9, e10, e11, e12, e13, e14, e15, e16⟩ := hi
  exact ⟨xo, q, M, co, us, S', e1, e2, e3, e4, e5, e6, e7, e8, e9, e10, e11, e12, e13, e14, e15, fun r h' a b c => ⟨L', e16 r h' a b c, hs⟩⟩
theorem mm_nx_sub {T : mm_T} {cs : List mm_C} {ini : Bool} {CM SM FM LM : Nat} {ret : Option FieldType} {Rt : Option mm_v → mm_h → Nat × Nat → Prop} {x : mm_s} (hs : mm_sub L x.2.1) (hi : mm_nx cl dt mts T cs ini nL CM SM FM LM cc ret Rt x N) : mm_nx cl dt mts T cs ini nL CM SM FM LM cc ret Rt (x.1, L, x.2.2) (mm_sb N) := by
  obtain ⟨i, hd, q⟩ := hi
  refine ⟨i, hd, ?_⟩
  rcases q with q | q | q | q | q | q | q | q | q | q | q | q | q | q
  · exact .inl (mm_a_sub hs q)
  · exact .inr (.inl (mm_b_sub hs q))
  · exact .inr (.inr (.inl (mm_c_sub hs q)))
  · exact .inr (.inr (.inr (.inl (mm_d_sub hs q))))
  · exact .inr (.inr (.inr (.inr (.inl (mm_e_sub hs q)))))
  · exact .inr (.inr (.inr (.inr (.inr (.inl (mm_f_sub hs q))))))
  · exact .inr (.inr (.inr (.inr (.inr (.inr (.inl (mm_ld_sub hs q)))))))
  · exact .inr (.inr (.inr (.inr (.inr (.inr (.inr (.inl (mm_sw_sub hs q))))))))
  · exact .inr (.inr (.inr (.inr (.inr (.inr (.inr (.inr (.inl (mm_n_sub hs q)))))))))
  · exact .inr (.inr (.inr (.inr (.inr (.inr (.inr (.inr (.inr (.inl (mm_k_sub hs q))))))))))
  · exact .inr (.inr (.inr (.inr (.inr (.inr (.inr (.inr (.inr (.inr (.inl (mm_y_sub hs q)))))))))))
  · exact .inr (.inr (.inr (.inr (.inr (.inr (.inr (.inr (.inr (.inr (.inr (.inl (mm_x_sub hs q))))))))))))
  · exact .inr (.inr (.inr (.inr (.inr (.inr (.inr (.inr (.inr (.inr (.inr (.inr (.inl (mm_cal_sub hs q)))))))))))))
  · exact .inr (.inr (.inr (.inr (.inr (.inr (.inr (.inr (.inr (.inr (.inr (.inr (.inr q))))))))))))
theorem mm_W.sub {T : mm_T} {cs : List mm_C} {ini : Bool} {CM SM FM LM : Nat} {ret : Option FieldType} {Rt : Option mm_v → mm_h → Nat × Nat → Prop} {y : List mm_v × mm_h × Nat × Nat} (hw : mm_W cl dt mts T cs ini nL CM SM FM LM cc ret Rt (pc, L', y)) (hs : mm_sub L L') : mm_W cl dt mts T cs ini nL CM SM FM LM cc ret Rt (pc, L, y) :=
  hw (fun x => ∀ L, mm_sub L x.2.1 → mm_W cl dt mts T cs ini nL CM SM FM LM cc ret Rt (x.1, L, x.2.2)) (fun x N hn hN L hL P hP => hP _ _ (mm_nx_sub hL hn) (fun z ⟨M, q1, q2⟩ => hN _ q1 _ q2 P hP)) L hs
/-- it is so, by looking the places up -/
theorem mm_sub_of {L L' : List (Nat × mm_v)} (h : L'.map (fun q => mm_get L q.1) = L'.map (fun q => some q.2)) : mm_sub L L' := fun q hq => by
  have := List.map_inj_left.mp h q hq
  exact this
end MMT
