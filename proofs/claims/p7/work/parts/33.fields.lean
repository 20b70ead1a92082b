/-! WALKS BY HAND: cells after a write, fields, calls -/
theorem mm_si_n (h : mm_h) (i k : Nat) (y : Int32) : (mm_si h i k y).1 = h.1 := rfl
theorem mm_si_s (h : mm_h) (i k : Nat) (y : Int32) : (mm_si h i k y).2.1 = h.2.1 := rfl
theorem mm_si_r (h : mm_h) (i k : Nat) (y : Int32) : (mm_si h i k y).2.2.2 = h.2.2.2 := rfl
theorem mm_si_i (h : mm_h) (i k : Nat) (y : Int32) (i' k' : Nat) : (mm_si h i k y).2.2.1 i' k' = if i' = i ∧ k' = k then y else h.2.2.1 i' k' := rfl
theorem mm_getf {fl : List ck_FL} {dt : List (List FieldType)} {ini : Bool} {pc x i : Nat} {L : List (Nat × mm_v)} {S : List mm_v} {h : mm_h} {k : Nat × Nat} {N : mm_s → Prop} {q : ck_FL} {tl : List FieldType} {t : FieldType} (hq : ck_fld fl x = some q) (hd : dt[q.2.1]? = some tl) (ht : tl[q.2.2.1]? = some t) : mm_f fl dt ini pc (.getfield x, 3) L (.inr (.inr (.inl (some i))) :: S) h k N = (i < h.1 ∧ (∃ n, h.2.1 i = .inl (q.2.1, n)) ∧ N (pc + 3, L, mm_fd h i q.2.2.1 t :: S, h, k)) := by
  refine propext ⟨fun z => ?_, fun ⟨z1, ⟨n, z2⟩, z3⟩ => ⟨q, n, tl, t, hq, z1, z2, hd, ht, z3⟩⟩
  obtain ⟨q', n, tl', t', e1, e2, e3, e4, e5, e6⟩ := z
  cases Option.some.inj (hq.symm.trans e1)
  cases Option.some.inj (hd.symm.trans e4)
  cases Option.some.inj (ht.symm.trans e5)
  exact ⟨e2, ⟨n, e3⟩, e6⟩
theorem mm_putf {fl : List ck_FL} {dt : List (List FieldType)} {ini : Bool} {pc x i : Nat} {y : Int32} {L : List (Nat × mm_v)} {S : List mm_v} {h : mm_h} {k : Nat × Nat} {N : mm_s → Prop} {q : ck_FL} {tl : List FieldType} (hq : ck_fld fl x = some q) (hd : dt[q.2.1]? = some tl) (ht : tl[q.2.2.1]? = some q.2.2.2.1) (hi : q.2.2.2.1 = .int) (hf : q.2.2.2.2 = false) : mm_f fl dt ini pc (.putfield x, 3) L (.inl y :: .inr (.inr (.inl (some i))) :: S) h k N = (i < h.1 ∧ (∃ n, h.2.1 i = .inl (q.2.1, n)) ∧ True ∧ N (pc + 3, L, S, mm_si h i q.2.2.1 y, k)) := by
  refine propext ⟨fun z => ?_, fun ⟨z1, ⟨n, z2⟩, _, z3⟩ => ⟨q, n, tl, hq, z1, z2, hd, ht, by rw [hi]; rfl, by rw [hi]; rfl, by rw [hi]; rfl, fun e => by rw [hf] at e; (cases e), z3⟩⟩
  obtain ⟨q', n, tl', e1, e2, e3, e4, e5, e6, e7, e8, e9, e10⟩ := z
  cases Option.some.inj (hq.symm.trans e1)
  exact ⟨e2, ⟨n, e3⟩, trivial, e10⟩
theorem mm_putz {fl : List ck_FL} {dt : List (List FieldType)} {ini : Bool} {pc x i : Nat} {y : Int32} {L : List (Nat × mm_v)} {S : List mm_v} {h : mm_h} {k : Nat × Nat} {N : mm_s → Prop} {q : ck_FL} {tl : List FieldType} (hq : ck_fld fl x = some q) (hd : dt[q.2.1]? = some tl) (ht : tl[q.2.2.1]? = some q.2.2.2.1) (hi : q.2.2.2.1 = .boolean) (hf : q.2.2.2.2 = false) : mm_f fl dt ini pc (.putfield x, 3) L (.inl y :: .inr (.inr (.inl (some i))) :: S) h k N = (i < h.1 ∧ (∃ n, h.2.1 i = .inl (q.2.1, n)) ∧ (y = 0 ∨ y = 1) ∧ N (pc + 3, L, S, mm_si h i q.2.2.1 y, k)) := by
  refine propext ⟨fun z => ?_, fun ⟨z1, ⟨n, z2⟩, z4, z3⟩ => ⟨q, n, tl, hq, z1, z2, hd, ht, by rw [hi]; rfl, by rw [hi]; (rcases z4 with e | e <;> (rw [e]; rfl)), by rw [hi]; (rcases z4 with e | e <;> (rw [e]; rfl)), fun e => by rw [hf] at e; (cases e), z3⟩⟩
  obtain ⟨q', n, tl', e1, e2, e3, e4, e5, e6, e7, e8, e9, e10⟩ := z
  cases Option.some.inj (hq.symm.trans e1)
  refine ⟨e2, ⟨n, e3⟩, ?_, e10⟩
  rw [hi] at e7
  sorry
section MMU
variable {cc : ByteArray} {cl : List vw_C} {dt : List (List FieldType)} {nL : Nat} {mts : List ck_MT}
/-- a call, by what the callee is known to do -/
theorem mm_call_W {T : mm_T} {cs : List mm_C} {ini : Bool} {CM SM FM LM : Nat} {ret : Option FieldType} {Rt : Option mm_v → mm_h → Nat × Nat → Prop} {pc : Nat} {L : List (Nat × mm_v)} {S : List mm_v} {h : mm_h} {k : Nat × Nat} {i : Instr × Nat} (xo : Nat × Nat) (q : Nat × Nat × Nat) (M : ck_MT) (co : mm_C) (us S' : List mm_v) (hd : decode cc pc = .ok i) (h1 : ck_inv i = some xo) (h2 : T.2.2.2.2.2.2.2.find? (fun q => q.1 == xo.1) = some q) (h3 : q.2.1 < 6 ∧ q.2.1 % 3 = xo.2) (h4 : mts[q.2.2]? = some M) (h5 : co ∈ cs) (h6 : co.1 = q.2.2) (h7 : S = us.reverse ++ S') (h8 : mm_self cl M xo.2 us h) (h9 : mm_wd S' ≤ 8) (h10 : co.2.1.1 + 1 ≤ FM ∧ 8 + (M.2.2.1 + 11) + co.2.1.2.1 ≤ LM) (h11 : k.1 + co.2.1.2.2.1 ≤ CM ∧ k.2 + co.2.1.2.2.2 ≤ SM) (h12 : co.2.2.1 us h)
    (K : ∀ (r : Option mm_v) (h' : mm_h), co.2.2.2 us h r h' → h.1 ≤ h'.1 → mm_W cl dt mts T cs ini nL CM SM FM LM cc ret Rt (pc + 3, L, r.toList ++ S', h', k.1 + co.2.1.2.2.1, k.2 + co.2.1.2.2.2)) : mm_W cl dt mts T cs ini nL CM SM FM LM cc ret Rt (pc, L, S, h, k) :=
  mm_W.of ⟨i, hd, .inr (.inr (.inr (.inr (.inr (.inr (.inr (.inr (.inr (.inr (.inr (.inr (.inl ⟨xo, q, M, co, us, S', h1, h2, h3.1, h3.2, h4, h5, h6, h7, h8, h9, h10.1, h10.2, h11.1, h11.2, h12, fun r h' a b _ => K r h' a b⟩))))))))))))⟩
end MMU
/-! the reference's fields and calls -/
theorem gf13_3 {ini : Bool} {pc i : Nat} {L : List (Nat × mm_v)} {S : List mm_v} {h : mm_h} {k : Nat × Nat} {N : mm_s → Prop} : mm_f ck_T13.1 ck_dt ini pc (.getfield 3, 3) L (.inr (.inr (.inl (some i))) :: S) h k N = (i < h.1 ∧ (∃ n, h.2.1 i = .inl (12, n)) ∧ N (pc + 3, L, mm_I (h.2.2.1 i 0) :: S, h, k)) := mm_getf rfl rfl rfl
theorem pf13_3 {ini : Bool} {pc i : Nat} {y : Int32} {L : List (Nat × mm_v)} {S : List mm_v} {h : mm_h} {k : Nat × Nat} {N : mm_s → Prop} : mm_f ck_T13.1 ck_dt ini pc (.putfield 3, 3) L (.inl y :: .inr (.inr (.inl (some i))) :: S) h k N = (i < h.1 ∧ (∃ n, h.2.1 i = .inl (12, n)) ∧ True ∧ N (pc + 3, L, S, mm_si h i 0 y, k)) := mm_putf rfl rfl rfl rfl rfl
theorem gf13_13 {ini : Bool} {pc i : Nat} {L : List (Nat × mm_v)} {S : List mm_v} {h : mm_h} {k : Nat × Nat} {N : mm_s → Prop} : mm_f ck_T13.1 ck_dt ini pc (.getfield 13, 3) L (.inr (.inr (.inl (some i))) :: S) h k N = (i < h.1 ∧ (∃ n, h.2.1 i = .inl (12, n)) ∧ N (pc + 3, L, mm_A (h.2.2.2 i 1) :: S, h, k)) := mm_getf rfl rfl rfl
theorem gf13_17 {ini : Bool} {pc i : Nat} {L : List (Nat × mm_v)} {S : List mm_v} {h : mm_h} {k : Nat × Nat} {N : mm_s → Prop} : mm_f ck_T13.1 ck_dt ini pc (.getfield 17, 3) L (.inr (.inr (.inl (some i))) :: S) h k N = (i < h.1 ∧ (∃ n, h.2.1 i = .inl (12, n)) ∧ N (pc + 3, L, mm_A (h.2.2.2 i 2) :: S, h, k)) := mm_getf rfl rfl rfl
theorem gf13_20 {ini : Bool} {pc i : Nat} {L : List (Nat × mm_v)} {S : List mm_v} {h : mm_h} {k : Nat × Nat} {N : mm_s → Prop} : mm_f ck_T13.1 ck_dt ini pc (.getfield 20, 3) L (.inr (.inr (.inl (some i))) :: S) h k N = (i < h.1 ∧ (∃ n, h.2.1 i = .inl (12, n)) ∧ N (pc + 3, L, mm_A (h.2.2.2 i 3) :: S, h, k)) := mm_getf rfl rfl rfl
theorem gf13_24 {ini : Bool} {pc i : Nat} {L : List (Nat × mm_v)} {S : List mm_v} {h : mm_h} {k : Nat × Nat} {N : mm_s → Prop} : mm_f ck_T13.1 ck_dt ini pc (.getfield 24, 3) L (.inr (.inr (.inl (some i))) :: S) h k N = (i < h.1 ∧ (∃ n, h.2.1 i = .inl (12, n)) ∧ N (pc + 3, L, mm_A (h.2.2.2 i 4) :: S, h, k)) := mm_getf rfl rfl rfl
theorem gf13_28 {ini : Bool} {pc i : Nat} {L : List (Nat × mm_v)} {S : List mm_v} {h : mm_h} {k : Nat × Nat} {N : mm_s → Prop} : mm_f ck_T13.1 ck_dt ini pc (.getfield 28, 3) L (.inr (.inr (.inl (some i))) :: S) h k N = (i < h.1 ∧ (∃ n, h.2.1 i = .inl (12, n)) ∧ N (pc + 3, L, mm_A (h.2.2.2 i 5) :: S, h, k)) := mm_getf rfl rfl rfl
theorem gf13_31 {ini : Bool} {pc i : Nat} {L : List (Nat × mm_v)} {S : List mm_v} {h : mm_h} {k : Nat × Nat} {N : mm_s → Prop} : mm_f ck_T13.1 ck_dt ini pc (.getfield 31, 3) L (.inr (.inr (.inl (some i))) :: S) h k N = (i < h.1 ∧ (∃ n, h.2.1 i = .inl (12, n)) ∧ N (pc + 3, L, mm_A (h.2.2.2 i 6) :: S, h, k)) := mm_getf rfl rfl rfl
theorem gf13_34 {ini : Bool} {pc i : Nat} {L : List (Nat × mm_v)} {S : List mm_v} {h : mm_h} {k : Nat × Nat} {N : mm_s → Prop} : mm_f ck_T13.1 ck_dt ini pc (.getfield 34, 3) L (.inr (.inr (.inl (some i))) :: S) h k N = (i < h.1 ∧ (∃ n, h.2.1 i = .inl (12, n)) ∧ N (pc + 3, L, mm_I (h.2.2.1 i 8) :: S, h, k)) := mm_getf rfl rfl rfl
theorem pf13_34 {ini : Bool} {pc i : Nat} {y : Int32} {L : List (Nat × mm_v)} {S : List mm_v} {h : mm_h} {k : Nat × Nat} {N : mm_s → Prop} : mm_f ck_T13.1 ck_dt ini pc (.putfield 34, 3) L (.inl y :: .inr (.inr (.inl (some i))) :: S) h k N = (i < h.1 ∧ (∃ n, h.2.1 i = .inl (12, n)) ∧ True ∧ N (pc + 3, L, S, mm_si h i 8 y, k)) := mm_putf rfl rfl rfl rfl rfl
theorem gf13_37 {ini : Bool} {pc i : Nat} {L : List (Nat × mm_v)} {S : List mm_v} {h : mm_h} {k : Nat × Nat} {N : mm_s → Prop} : mm_f ck_T13.1 ck_dt ini pc (.getfield 37, 3) L (.inr (.inr (.inl (some i))) :: S) h k N = (i < h.1 ∧ (∃ n, h.2.1 i = .inl (12, n)) ∧ N (pc + 3, L, mm_A (h.2.2.2 i 9) :: S, h, k)) := mm_getf rfl rfl rfl
theorem gf13_40 {ini : Bool} {pc i : Nat} {L : List (Nat × mm_v)} {S : List mm_v} {h : mm_h} {k : Nat × Nat} {N : mm_s → Prop} : mm_f ck_T13.1 ck_dt ini pc (.getfield 40, 3) L (.inr (.inr (.inl (some i))) :: S) h k N = (i < h.1 ∧ (∃ n, h.2.1 i = .inl (12, n)) ∧ N (pc + 3, L, mm_A (h.2.2.2 i 10) :: S, h, k)) := mm_getf rfl rfl rfl
theorem gf13_43 {ini : Bool} {pc i : Nat} {L : List (Nat × mm_v)} {S : List mm_v} {h : mm_h} {k : Nat × Nat} {N : mm_s → Prop} : mm_f ck_T13.1 ck_dt ini pc (.getfield 43, 3) L (.inr (.inr (.inl (some i))) :: S) h k N = (i < h.1 ∧ (∃ n, h.2.1 i = .inl (12, n)) ∧ N (pc + 3, L, mm_A (h.2.2.2 i 11) :: S, h, k)) := mm_getf rfl rfl rfl
theorem gf13_46 {ini : Bool} {pc i : Nat} {L : List (Nat × mm_v)} {S : List mm_v} {h : mm_h} {k : Nat × Nat} {N : mm_s → Prop} : mm_f ck_T13.1 ck_dt ini pc (.getfield 46, 3) L (.inr (.inr (.inl (some i))) :: S) h k N = (i < h.1 ∧ (∃ n, h.2.1 i = .inl (12, n)) ∧ N (pc + 3, L, mm_A (h.2.2.2 i 19) :: S, h, k)) := mm_getf rfl rfl rfl
theorem gf13_49 {ini : Bool} {pc i : Nat} {L : List (Nat × mm_v)} {S : List mm_v} {h : mm_h} {k : Nat × Nat} {N : mm_s → Prop} : mm_f ck_T13.1 ck_dt ini pc (.getfield 49, 3) L (.inr (.inr (.inl (some i))) :: S) h k N = (i < h.1 ∧ (∃ n, h.2.1 i = .inl (12, n)) ∧ N (pc + 3, L, mm_A (h.2.2.2 i 24) :: S, h, k)) := mm_getf rfl rfl rfl
theorem gf13_52 {ini : Bool} {pc i : Nat} {L : List (Nat × mm_v)} {S : List mm_v} {h : mm_h} {k : Nat × Nat} {N : mm_s → Prop} : mm_f ck_T13.1 ck_dt ini pc (.getfield 52, 3) L (.inr (.inr (.inl (some i))) :: S) h k N = (i < h.1 ∧ (∃ n, h.2.1 i = .inl (12, n)) ∧ N (pc + 3, L, mm_A (h.2.2.2 i 25) :: S, h, k)) := mm_getf rfl rfl rfl
theorem gf13_55 {ini : Bool} {pc i : Nat} {L : List (Nat × mm_v)} {S : List mm_v} {h : mm_h} {k : Nat × Nat} {N : mm_s → Prop} : mm_f ck_T13.1 ck_dt ini pc (.getfield 55, 3) L (.inr (.inr (.inl (some i))) :: S) h k N = (i < h.1 ∧ (∃ n, h.2.1 i = .inl (12, n)) ∧ N (pc + 3, L, mm_A (h.2.2.2 i 26) :: S, h, k)) := mm_getf rfl rfl rfl
theorem gf13_58 {ini : Bool} {pc i : Nat} {L : List (Nat × mm_v)} {S : List mm_v} {h : mm_h} {k : Nat × Nat} {N : mm_s → Prop} : mm_f ck_T13.1 ck_dt ini pc (.getfield 58, 3) L (.inr (.inr (.inl (some i))) :: S) h k N = (i < h.1 ∧ (∃ n, h.2.1 i = .inl (12, n)) ∧ N (pc + 3, L, mm_A (h.2.2.2 i 27) :: S, h, k)) := mm_getf rfl rfl rfl
theorem gf13_61 {ini : Bool} {pc i : Nat} {L : List (Nat × mm_v)} {S : List mm_v} {h : mm_h} {k : Nat × Nat} {N : mm_s → Prop} : mm_f ck_T13.1 ck_dt ini pc (.getfield 61, 3) L (.inr (.inr (.inl (some i))) :: S) h k N = (i < h.1 ∧ (∃ n, h.2.1 i = .inl (12, n)) ∧ N (pc + 3, L, mm_A (h.2.2.2 i 28) :: S, h, k)) := mm_getf rfl rfl rfl
theorem gf13_64 {ini : Bool} {pc i : Nat} {L : List (Nat × mm_v)} {S : List mm_v} {h : mm_h} {k : Nat × Nat} {N : mm_s → Prop} : mm_f ck_T13.1 ck_dt ini pc (.getfield 64, 3) L (.inr (.inr (.inl (some i))) :: S) h k N = (i < h.1 ∧ (∃ n, h.2.1 i = .inl (12, n)) ∧ N (pc + 3, L, mm_I (h.2.2.1 i 29) :: S, h, k)) := mm_getf rfl rfl rfl
theorem pf13_64 {ini : Bool} {pc i : Nat} {y : Int32} {L : List (Nat × mm_v)} {S : List mm_v} {h : mm_h} {k : Nat × Nat} {N : mm_s → Prop} : mm_f ck_T13.1 ck_dt ini pc (.putfield 64, 3) L (.inl y :: .inr (.inr (.inl (some i))) :: S) h k N = (i < h.1 ∧ (∃ n, h.2.1 i = .inl (12, n)) ∧ True ∧ N (pc + 3, L, S, mm_si h i 29 y, k)) := mm_putf rfl rfl rfl rfl rfl
theorem gf13_67 {ini : Bool} {pc i : Nat} {L : List (Nat × mm_v)} {S : List mm_v} {h : mm_h} {k : Nat × Nat} {N : mm_s → Prop} : mm_f ck_T13.1 ck_dt ini pc (.getfield 67, 3) L (.inr (.inr (.inl (some i))) :: S) h k N = (i < h.1 ∧ (∃ n, h.2.1 i = .inl (12, n)) ∧ N (pc + 3, L, mm_A (h.2.2.2 i 30) :: S, h, k)) := mm_getf rfl rfl rfl
theorem gf13_70 {ini : Bool} {pc i : Nat} {L : List (Nat × mm_v)} {S : List mm_v} {h : mm_h} {k : Nat × Nat} {N : mm_s → Prop} : mm_f ck_T13.1 ck_dt ini pc (.getfield 70, 3) L (.inr (.inr (.inl (some i))) :: S) h k N = (i < h.1 ∧ (∃ n, h.2.1 i = .inl (12, n)) ∧ N (pc + 3, L, mm_A (h.2.2.2 i 31) :: S, h, k)) := mm_getf rfl rfl rfl
theorem gf13_74 {ini : Bool} {pc i : Nat} {L : List (Nat × mm_v)} {S : List mm_v} {h : mm_h} {k : Nat × Nat} {N : mm_s → Prop} : mm_f ck_T13.1 ck_dt ini pc (.getfield 74, 3) L (.inr (.inr (.inl (some i))) :: S) h k N = (i < h.1 ∧ (∃ n, h.2.1 i = .inl (12, n)) ∧ N (pc + 3, L, mm_A (h.2.2.2 i 35) :: S, h, k)) := mm_getf rfl rfl rfl
theorem gf13_77 {ini : Bool} {pc i : Nat} {L : List (Nat × mm_v)} {S : List mm_v} {h : mm_h} {k : Nat × Nat} {N : mm_s → Prop} : mm_f ck_T13.1 ck_dt ini pc (.getfield 77, 3) L (.inr (.inr (.inl (some i))) :: S) h k N = (i < h.1 ∧ (∃ n, h.2.1 i = .inl (12, n)) ∧ N (pc + 3, L, mm_A (h.2.2.2 i 36) :: S, h, k)) := mm_getf rfl rfl rfl
theorem gf13_80 {ini : Bool} {pc i : Nat} {L : List (Nat × mm_v)} {S : List mm_v} {h : mm_h} {k : Nat × Nat} {N : mm_s → Prop} : mm_f ck_T13.1 ck_dt ini pc (.getfield 80, 3) L (.inr (.inr (.inl (some i))) :: S) h k N = (i < h.1 ∧ (∃ n, h.2.1 i = .inl (12, n)) ∧ N (pc + 3, L, mm_A (h.2.2.2 i 37) :: S, h, k)) := mm_getf rfl rfl rfl
theorem gf13_83 {ini : Bool} {pc i : Nat} {L : List (Nat × mm_v)} {S : List mm_v} {h : mm_h} {k : Nat × Nat} {N : mm_s → Prop} : mm_f ck_T13.1 ck_dt ini pc (.getfield 83, 3) L (.inr (.inr (.inl (some i))) :: S) h k N = (i < h.1 ∧ (∃ n, h.2.1 i = .inl (12, n)) ∧ N (pc + 3, L, mm_A (h.2.2.2 i 38) :: S, h, k)) := mm_getf rfl rfl rfl
theorem gf13_86 {ini : Bool} {pc i : Nat} {L : List (Nat × mm_v)} {S : List mm_v} {h : mm_h} {k : Nat × Nat} {N : mm_s → Prop} : mm_f ck_T13.1 ck_dt ini pc (.getfield 86, 3) L (.inr (.inr (.inl (some i))) :: S) h k N = (i < h.1 ∧ (∃ n, h.2.1 i = .inl (12, n)) ∧ N (pc + 3, L, mm_A (h.2.2.2 i 39) :: S, h, k)) := mm_getf rfl rfl rfl
theorem gf13_89 {ini : Bool} {pc i : Nat} {L : List (Nat × mm_v)} {S : List mm_v} {h : mm_h} {k : Nat × Nat} {N : mm_s → Prop} : mm_f ck_T13.1 ck_dt ini pc (.getfield 89, 3) L (.inr (.inr (.inl (some i))) :: S) h k N = (i < h.1 ∧ (∃ n, h.2.1 i = .inl (12, n)) ∧ N (pc + 3, L, mm_A (h.2.2.2 i 40) :: S, h, k)) := mm_getf rfl rfl rfl
theorem gf13_122 {ini : Bool} {pc i : Nat} {L : List (Nat × mm_v)} {S : List mm_v} {h : mm_h} {k : Nat × Nat} {N : mm_s → Prop} : mm_f ck_T13.1 ck_dt ini pc (.getfield 122, 3) L (.inr (.inr (.inl (some i))) :: S) h k N = (i < h.1 ∧ (∃ n, h.2.1 i = .inl (12, n)) ∧ N (pc + 3, L, mm_I (h.2.2.1 i 7) :: S, h, k)) := mm_getf rfl rfl rfl
theorem pf13_122 {ini : Bool} {pc i : Nat} {y : Int32} {L : List (Nat × mm_v)} {S : List mm_v} {h : mm_h} {k : Nat × Nat} {N : mm_s → Prop} : mm_f ck_T13.1 ck_dt ini pc (.putfield 122, 3) L (.inl y :: .inr (.inr (.inl (some i))) :: S) h k N = (i < h.1 ∧ (∃ n, h.2.1 i = .inl (12, n)) ∧ True ∧ N (pc + 3, L, S, mm_si h i 7 y, k)) := mm_putf rfl rfl rfl rfl rfl
theorem gf13_125 {ini : Bool} {pc i : Nat} {L : List (Nat × mm_v)} {S : List mm_v} {h : mm_h} {k : Nat × Nat} {N : mm_s → Prop} : mm_f ck_T13.1 ck_dt ini pc (.getfield 125, 3) L (.inr (.inr (.inl (some i))) :: S) h k N = (i < h.1 ∧ (∃ n, h.2.1 i = .inl (12, n)) ∧ N (pc + 3, L, mm_I (h.2.2.1 i 12) :: S, h, k)) := mm_getf rfl rfl rfl
theorem pf13_125 {ini : Bool} {pc i : Nat} {y : Int32} {L : List (Nat × mm_v)} {S : List mm_v} {h : mm_h} {k : Nat × Nat} {N : mm_s → Prop} : mm_f ck_T13.1 ck_dt ini pc (.putfield 125, 3) L (.inl y :: .inr (.inr (.inl (some i))) :: S) h k N = (i < h.1 ∧ (∃ n, h.2.1 i = .inl (12, n)) ∧ True ∧ N (pc + 3, L, S, mm_si h i 12 y, k)) := mm_putf rfl rfl rfl rfl rfl
theorem gf13_137 {ini : Bool} {pc i : Nat} {L : List (Nat × mm_v)} {S : List mm_v} {h : mm_h} {k : Nat × Nat} {N : mm_s → Prop} : mm_f ck_T13.1 ck_dt ini pc (.getfield 137, 3) L (.inr (.inr (.inl (some i))) :: S) h k N = (i < h.1 ∧ (∃ n, h.2.1 i = .inl (12, n)) ∧ N (pc + 3, L, mm_I (h.2.2.1 i 15) :: S, h, k)) := mm_getf rfl rfl rfl
theorem pf13_137 {ini : Bool} {pc i : Nat} {y : Int32} {L : List (Nat × mm_v)} {S : List mm_v} {h : mm_h} {k : Nat × Nat} {N : mm_s → Prop} : mm_f ck_T13.1 ck_dt ini pc (.putfield 137, 3) L (.inl y :: .inr (.inr (.inl (some i))) :: S) h k N = (i < h.1 ∧ (∃ n, h.2.1 i = .inl (12, n)) ∧ True ∧ N (pc + 3, L, S, mm_si h i 15 y, k)) := mm_putf rfl rfl rfl rfl rfl
theorem gf13_144 {ini : Bool} {pc i : Nat} {L : List (Nat × mm_v)} {S : List mm_v} {h : mm_h} {k : Nat × Nat} {N : mm_s → Prop} : mm_f ck_T13.1 ck_dt ini pc (.getfield 144, 3) L (.inr (.inr (.inl (some i))) :: S) h k N = (i < h.1 ∧ (∃ n, h.2.1 i = .inl (12, n)) ∧ N (pc + 3, L, mm_I (h.2.2.1 i 13) :: S, h, k)) := mm_getf rfl rfl rfl
theorem pf13_144 {ini : Bool} {pc i : Nat} {y : Int32} {L : List (Nat × mm_v)} {S : List mm_v} {h : mm_h} {k : Nat × Nat} {N : mm_s → Prop} : mm_f ck_T13.1 ck_dt ini pc (.putfield 144, 3) L (.inl y :: .inr (.inr (.inl (some i))) :: S) h k N = (i < h.1 ∧ (∃ n, h.2.1 i = .inl (12, n)) ∧ True ∧ N (pc + 3, L, S, mm_si h i 13 y, k)) := mm_putf rfl rfl rfl rfl rfl
theorem gf13_153 {ini : Bool} {pc i : Nat} {L : List (Nat × mm_v)} {S : List mm_v} {h : mm_h} {k : Nat × Nat} {N : mm_s → Prop} : mm_f ck_T13.1 ck_dt ini pc (.getfield 153, 3) L (.inr (.inr (.inl (some i))) :: S) h k N = (i < h.1 ∧ (∃ n, h.2.1 i = .inl (12, n)) ∧ N (pc + 3, L, mm_I (h.2.2.1 i 14) :: S, h, k)) := mm_getf rfl rfl rfl
theorem pf13_153 {ini : Bool} {pc i : Nat} {y : Int32} {L : List (Nat × mm_v)} {S : List mm_v} {h : mm_h} {k : Nat × Nat} {N : mm_s → Prop} : mm_f ck_T13.1 ck_dt ini pc (.putfield 153, 3) L (.inl y :: .inr (.inr (.inl (some i))) :: S) h k N = (i < h.1 ∧ (∃ n, h.2.1 i = .inl (12, n)) ∧ True ∧ N (pc + 3, L, S, mm_si h i 14 y, k)) := mm_putf rfl rfl rfl rfl rfl
theorem gf13_201 {ini : Bool} {pc i : Nat} {L : List (Nat × mm_v)} {S : List mm_v} {h : mm_h} {k : Nat × Nat} {N : mm_s → Prop} : mm_f ck_T13.1 ck_dt ini pc (.getfield 201, 3) L (.inr (.inr (.inl (some i))) :: S) h k N = (i < h.1 ∧ (∃ n, h.2.1 i = .inl (12, n)) ∧ N (pc + 3, L, mm_I (h.2.2.1 i 17) :: S, h, k)) := mm_getf rfl rfl rfl
theorem pf13_201 {ini : Bool} {pc i : Nat} {y : Int32} {L : List (Nat × mm_v)} {S : List mm_v} {h : mm_h} {k : Nat × Nat} {N : mm_s → Prop} : mm_f ck_T13.1 ck_dt ini pc (.putfield 201, 3) L (.inl y :: .inr (.inr (.inl (some i))) :: S) h k N = (i < h.1 ∧ (∃ n, h.2.1 i = .inl (12, n)) ∧ True ∧ N (pc + 3, L, S, mm_si h i 17 y, k)) := mm_putf rfl rfl rfl rfl rfl
theorem gf13_204 {ini : Bool} {pc i : Nat} {L : List (Nat × mm_v)} {S : List mm_v} {h : mm_h} {k : Nat × Nat} {N : mm_s → Prop} : mm_f ck_T13.1 ck_dt ini pc (.getfield 204, 3) L (.inr (.inr (.inl (some i))) :: S) h k N = (i < h.1 ∧ (∃ n, h.2.1 i = .inl (12, n)) ∧ N (pc + 3, L, mm_I (h.2.2.1 i 16) :: S, h, k)) := mm_getf rfl rfl rfl
theorem pf13_204 {ini : Bool} {pc i : Nat} {y : Int32} {L : List (Nat × mm_v)} {S : List mm_v} {h : mm_h} {k : Nat × Nat} {N : mm_s → Prop} : mm_f ck_T13.1 ck_dt ini pc (.putfield 204, 3) L (.inl y :: .inr (.inr (.inl (some i))) :: S) h k N = (i < h.1 ∧ (∃ n, h.2.1 i = .inl (12, n)) ∧ True ∧ N (pc + 3, L, S, mm_si h i 16 y, k)) := mm_putf rfl rfl rfl rfl rfl
theorem gf13_214 {ini : Bool} {pc i : Nat} {L : List (Nat × mm_v)} {S : List mm_v} {h : mm_h} {k : Nat × Nat} {N : mm_s → Prop} : mm_f ck_T13.1 ck_dt ini pc (.getfield 214, 3) L (.inr (.inr (.inl (some i))) :: S) h k N = (i < h.1 ∧ (∃ n, h.2.1 i = .inl (12, n)) ∧ N (pc + 3, L, mm_I (h.2.2.1 i 18) :: S, h, k)) := mm_getf rfl rfl rfl
theorem pf13_214 {ini : Bool} {pc i : Nat} {y : Int32} {L : List (Nat × mm_v)} {S : List mm_v} {h : mm_h} {k : Nat × Nat} {N : mm_s → Prop} : mm_f ck_T13.1 ck_dt ini pc (.putfield 214, 3) L (.inl y :: .inr (.inr (.inl (some i))) :: S) h k N = (i < h.1 ∧ (∃ n, h.2.1 i = .inl (12, n)) ∧ (y = 0 ∨ y = 1) ∧ N (pc + 3, L, S, mm_si h i 18 y, k)) := mm_putz rfl rfl rfl rfl rfl
theorem gf13_253 {ini : Bool} {pc i : Nat} {L : List (Nat × mm_v)} {S : List mm_v} {h : mm_h} {k : Nat × Nat} {N : mm_s → Prop} : mm_f ck_T13.1 ck_dt ini pc (.getfield 253, 3) L (.inr (.inr (.inl (some i))) :: S) h k N = (i < h.1 ∧ (∃ n, h.2.1 i = .inl (12, n)) ∧ N (pc + 3, L, mm_I (h.2.2.1 i 20) :: S, h, k)) := mm_getf rfl rfl rfl
theorem pf13_253 {ini : Bool} {pc i : Nat} {y : Int32} {L : List (Nat × mm_v)} {S : List mm_v} {h : mm_h} {k : Nat × Nat} {N : mm_s → Prop} : mm_f ck_T13.1 ck_dt ini pc (.putfield 253, 3) L (.inl y :: .inr (.inr (.inl (some i))) :: S) h k N = (i < h.1 ∧ (∃ n, h.2.1 i = .inl (12, n)) ∧ (y = 0 ∨ y = 1) ∧ N (pc + 3, L, S, mm_si h i 20 y, k)) := mm_putz rfl rfl rfl rfl rfl
theorem gf13_256 {ini : Bool} {pc i : Nat} {L : List (Nat × mm_v)} {S : List mm_v} {h : mm_h} {k : Nat × Nat} {N : mm_s → Prop} : mm_f ck_T13.1 ck_dt ini pc (.getfield 256, 3) L (.inr (.inr (.inl (some i))) :: S) h k N = (i < h.1 ∧ (∃ n, h.2.1 i = .inl (12, n)) ∧ N (pc + 3, L, mm_I (h.2.2.1 i 21) :: S, h, k)) := mm_getf rfl rfl rfl
theorem pf13_256 {ini : Bool} {pc i : Nat} {y : Int32} {L : List (Nat × mm_v)} {S : List mm_v} {h : mm_h} {k : Nat × Nat} {N : mm_s → Prop} : mm_f ck_T13.1 ck_dt ini pc (.putfield 256, 3) L (.inl y :: .inr (.inr (.inl (some i))) :: S) h k N = (i < h.1 ∧ (∃ n, h.2.1 i = .inl (12, n)) ∧ (y = 0 ∨ y = 1) ∧ N (pc + 3, L, S, mm_si h i 21 y, k)) := mm_putz rfl rfl rfl rfl rfl
theorem gf13_259 {ini : Bool} {pc i : Nat} {L : List (Nat × mm_v)} {S : List mm_v} {h : mm_h} {k : Nat × Nat} {N : mm_s → Prop} : mm_f ck_T13.1 ck_dt ini pc (.getfield 259, 3) L (.inr (.inr (.inl (some i))) :: S) h k N = (i < h.1 ∧ (∃ n, h.2.1 i = .inl (12, n)) ∧ N (pc + 3, L, mm_I (h.2.2.1 i 22) :: S, h, k)) := mm_getf rfl rfl rfl
theorem pf13_259 {ini : Bool} {pc i : Nat} {y : Int32} {L : List (Nat × mm_v)} {S : List mm_v} {h : mm_h} {k : Nat × Nat} {N : mm_s → Prop} : mm_f ck_T13.1 ck_dt ini pc (.putfield 259, 3) L (.inl y :: .inr (.inr (.inl (some i))) :: S) h k N = (i < h.1 ∧ (∃ n, h.2.1 i = .inl (12, n)) ∧ True ∧ N (pc + 3, L, S, mm_si h i 22 y, k)) := mm_putf rfl rfl rfl rfl rfl
theorem gf13_262 {ini : Bool} {pc i : Nat} {L : List (Nat × mm_v)} {S : List mm_v} {h : mm_h} {k : Nat × Nat} {N : mm_s → Prop} : mm_f ck_T13.1 ck_dt ini pc (.getfield 262, 3) L (.inr (.inr (.inl (some i))) :: S) h k N = (i < h.1 ∧ (∃ n, h.2.1 i = .inl (12, n)) ∧ N (pc + 3, L, mm_I (h.2.2.1 i 23) :: S, h, k)) := mm_getf rfl rfl rfl
theorem pf13_262 {ini : Bool} {pc i : Nat} {y : Int32} {L : List (Nat × mm_v)} {S : List mm_v} {h : mm_h} {k : Nat × Nat} {N : mm_s → Prop} : mm_f ck_T13.1 ck_dt ini pc (.putfield 262, 3) L (.inl y :: .inr (.inr (.inl (some i))) :: S) h k N = (i < h.1 ∧ (∃ n, h.2.1 i = .inl (12, n)) ∧ True ∧ N (pc + 3, L, S, mm_si h i 23 y, k)) := mm_putf rfl rfl rfl rfl rfl
theorem gf13_318 {ini : Bool} {pc i : Nat} {L : List (Nat × mm_v)} {S : List mm_v} {h : mm_h} {k : Nat × Nat} {N : mm_s → Prop} : mm_f ck_T13.1 ck_dt ini pc (.getfield 318, 3) L (.inr (.inr (.inl (some i))) :: S) h k N = (i < h.1 ∧ (∃ n, h.2.1 i = .inl (12, n)) ∧ N (pc + 3, L, mm_I (h.2.2.1 i 32) :: S, h, k)) := mm_getf rfl rfl rfl
theorem pf13_318 {ini : Bool} {pc i : Nat} {y : Int32} {L : List (Nat × mm_v)} {S : List mm_v} {h : mm_h} {k : Nat × Nat} {N : mm_s → Prop} : mm_f ck_T13.1 ck_dt ini pc (.putfield 318, 3) L (.inl y :: .inr (.inr (.inl (some i))) :: S) h k N = (i < h.1 ∧ (∃ n, h.2.1 i = .inl (12, n)) ∧ True ∧ N (pc + 3, L, S, mm_si h i 32 y, k)) := mm_putf rfl rfl rfl rfl rfl
theorem gf13_324 {ini : Bool} {pc i : Nat} {L : List (Nat × mm_v)} {S : List mm_v} {h : mm_h} {k : Nat × Nat} {N : mm_s → Prop} : mm_f ck_T13.1 ck_dt ini pc (.getfield 324, 3) L (.inr (.inr (.inl (some i))) :: S) h k N = (i < h.1 ∧ (∃ n, h.2.1 i = .inl (12, n)) ∧ N (pc + 3, L, mm_I (h.2.2.1 i 33) :: S, h, k)) := mm_getf rfl rfl rfl
theorem pf13_324 {ini : Bool} {pc i : Nat} {y : Int32} {L : List (Nat × mm_v)} {S : List mm_v} {h : mm_h} {k : Nat × Nat} {N : mm_s → Prop} : mm_f ck_T13.1 ck_dt ini pc (.putfield 324, 3) L (.inl y :: .inr (.inr (.inl (some i))) :: S) h k N = (i < h.1 ∧ (∃ n, h.2.1 i = .inl (12, n)) ∧ True ∧ N (pc + 3, L, S, mm_si h i 33 y, k)) := mm_putf rfl rfl rfl rfl rfl
theorem gf13_327 {ini : Bool} {pc i : Nat} {L : List (Nat × mm_v)} {S : List mm_v} {h : mm_h} {k : Nat × Nat} {N : mm_s → Prop} : mm_f ck_T13.1 ck_dt ini pc (.getfield 327, 3) L (.inr (.inr (.inl (some i))) :: S) h k N = (i < h.1 ∧ (∃ n, h.2.1 i = .inl (12, n)) ∧ N (pc + 3, L, mm_I (h.2.2.1 i 34) :: S, h, k)) := mm_getf rfl rfl rfl
theorem pf13_327 {ini : Bool} {pc i : Nat} {y : Int32} {L : List (Nat × mm_v)} {S : List mm_v} {h : mm_h} {k : Nat × Nat} {N : mm_s → Prop} : mm_f ck_T13.1 ck_dt ini pc (.putfield 327, 3) L (.inl y :: .inr (.inr (.inl (some i))) :: S) h k N = (i < h.1 ∧ (∃ n, h.2.1 i = .inl (12, n)) ∧ True ∧ N (pc + 3, L, S, mm_si h i 34 y, k)) := mm_putf rfl rfl rfl rfl rfl
theorem ml13_7 : ck_T13.2.2.2.2.2.2.2.find? (fun q => q.1 == 7) = some (7, 7, 0) := by decide
theorem ml13_92 : ck_T13.2.2.2.2.2.2.2.find? (fun q => q.1 == 92) = some (92, 1, 174) := by decide
theorem ml13_96 : ck_T13.2.2.2.2.2.2.2.find? (fun q => q.1 == 96) = some (96, 0, 175) := by decide
theorem ml13_100 : ck_T13.2.2.2.2.2.2.2.find? (fun q => q.1 == 100) = some (100, 0, 176) := by decide
theorem ml13_103 : ck_T13.2.2.2.2.2.2.2.find? (fun q => q.1 == 103) = some (103, 0, 179) := by decide
theorem ml13_107 : ck_T13.2.2.2.2.2.2.2.find? (fun q => q.1 == 107) = some (107, 0, 181) := by decide
theorem ml13_111 : ck_T13.2.2.2.2.2.2.2.find? (fun q => q.1 == 111) = some (111, 0, 182) := by decide
theorem ml13_128 : ck_T13.2.2.2.2.2.2.2.find? (fun q => q.1 == 128) = some (128, 1, 192) := by decide
theorem ml13_131 : ck_T13.2.2.2.2.2.2.2.find? (fun q => q.1 == 131) = some (131, 1, 193) := by decide
theorem ml13_134 : ck_T13.2.2.2.2.2.2.2.find? (fun q => q.1 == 134) = some (134, 0, 194) := by decide
theorem ml13_140 : ck_T13.2.2.2.2.2.2.2.find? (fun q => q.1 == 140) = some (140, 0, 197) := by decide
theorem ml13_147 : ck_T13.2.2.2.2.2.2.2.find? (fun q => q.1 == 147) = some (147, 0, 196) := by decide
theorem ml13_150 : ck_T13.2.2.2.2.2.2.2.find? (fun q => q.1 == 150) = some (150, 0, 199) := by decide
theorem ml13_156 : ck_T13.2.2.2.2.2.2.2.find? (fun q => q.1 == 156) = some (156, 0, 198) := by decide
theorem ml13_160 : ck_T13.2.2.2.2.2.2.2.find? (fun q => q.1 == 160) = some (160, 0, 200) := by decide
theorem ml13_163 : ck_T13.2.2.2.2.2.2.2.find? (fun q => q.1 == 163) = some (163, 0, 201) := by decide
theorem ml13_166 : ck_T13.2.2.2.2.2.2.2.find? (fun q => q.1 == 166) = some (166, 0, 206) := by decide
theorem ml13_169 : ck_T13.2.2.2.2.2.2.2.find? (fun q => q.1 == 169) = some (169, 0, 207) := by decide
theorem ml13_172 : ck_T13.2.2.2.2.2.2.2.find? (fun q => q.1 == 172) = some (172, 0, 208) := by decide
theorem ml13_175 : ck_T13.2.2.2.2.2.2.2.find? (fun q => q.1 == 175) = some (175, 1, 204) := by decide
theorem ml13_179 : ck_T13.2.2.2.2.2.2.2.find? (fun q => q.1 == 179) = some (179, 0, 202) := by decide
theorem ml13_182 : ck_T13.2.2.2.2.2.2.2.find? (fun q => q.1 == 182) = some (182, 0, 203) := by decide
theorem ml13_186 : ck_T13.2.2.2.2.2.2.2.find? (fun q => q.1 == 186) = some (186, 0, 205) := by decide
theorem ml13_189 : ck_T13.2.2.2.2.2.2.2.find? (fun q => q.1 == 189) = some (189, 0, 191) := by decide
theorem ml13_192 : ck_T13.2.2.2.2.2.2.2.find? (fun q => q.1 == 192) = some (192, 0, 195) := by decide
theorem ml13_195 : ck_T13.2.2.2.2.2.2.2.find? (fun q => q.1 == 195) = some (195, 0, 190) := by decide
theorem ml13_198 : ck_T13.2.2.2.2.2.2.2.find? (fun q => q.1 == 198) = some (198, 0, 211) := by decide
theorem ml13_207 : ck_T13.2.2.2.2.2.2.2.find? (fun q => q.1 == 207) = some (207, 0, 217) := by decide
theorem ml13_218 : ck_T13.2.2.2.2.2.2.2.find? (fun q => q.1 == 218) = some (218, 0, 219) := by decide
theorem ml13_222 : ck_T13.2.2.2.2.2.2.2.find? (fun q => q.1 == 222) = some (222, 0, 222) := by decide
theorem ml13_226 : ck_T13.2.2.2.2.2.2.2.find? (fun q => q.1 == 226) = some (226, 0, 220) := by decide
theorem ml13_229 : ck_T13.2.2.2.2.2.2.2.find? (fun q => q.1 == 229) = some (229, 0, 221) := by decide
theorem ml13_232 : ck_T13.2.2.2.2.2.2.2.find? (fun q => q.1 == 232) = some (232, 0, 218) := by decide
theorem ml13_235 : ck_T13.2.2.2.2.2.2.2.find? (fun q => q.1 == 235) = some (235, 0, 224) := by decide
theorem ml13_239 : ck_T13.2.2.2.2.2.2.2.find? (fun q => q.1 == 239) = some (239, 0, 225) := by decide
theorem ml13_242 : ck_T13.2.2.2.2.2.2.2.find? (fun q => q.1 == 242) = some (242, 0, 226) := by decide
theorem ml13_245 : ck_T13.2.2.2.2.2.2.2.find? (fun q => q.1 == 245) = some (245, 0, 223) := by decide
theorem ml13_250 : ck_T13.2.2.2.2.2.2.2.find? (fun q => q.1 == 250) = some (250, 0, 216) := by decide
theorem ml13_265 : ck_T13.2.2.2.2.2.2.2.find? (fun q => q.1 == 265) = some (265, 1, 227) := by decide
theorem ml13_269 : ck_T13.2.2.2.2.2.2.2.find? (fun q => q.1 == 269) = some (269, 0, 215) := by decide
theorem ml13_273 : ck_T13.2.2.2.2.2.2.2.find? (fun q => q.1 == 273) = some (273, 1, 213) := by decide
theorem ml13_277 : ck_T13.2.2.2.2.2.2.2.find? (fun q => q.1 == 277) = some (277, 0, 214) := by decide
theorem ml13_281 : ck_T13.2.2.2.2.2.2.2.find? (fun q => q.1 == 281) = some (281, 0, 229) := by decide
theorem ml13_284 : ck_T13.2.2.2.2.2.2.2.find? (fun q => q.1 == 284) = some (284, 0, 230) := by decide
theorem ml13_288 : ck_T13.2.2.2.2.2.2.2.find? (fun q => q.1 == 288) = some (288, 0, 233) := by decide
theorem ml13_291 : ck_T13.2.2.2.2.2.2.2.find? (fun q => q.1 == 291) = some (291, 0, 234) := by decide
theorem ml13_294 : ck_T13.2.2.2.2.2.2.2.find? (fun q => q.1 == 294) = some (294, 0, 237) := by decide
theorem ml13_297 : ck_T13.2.2.2.2.2.2.2.find? (fun q => q.1 == 297) = some (297, 0, 240) := by decide
theorem ml13_300 : ck_T13.2.2.2.2.2.2.2.find? (fun q => q.1 == 300) = some (300, 0, 239) := by decide
theorem ml13_303 : ck_T13.2.2.2.2.2.2.2.find? (fun q => q.1 == 303) = some (303, 0, 242) := by decide
theorem ml13_306 : ck_T13.2.2.2.2.2.2.2.find? (fun q => q.1 == 306) = some (306, 0, 244) := by decide
theorem ml13_309 : ck_T13.2.2.2.2.2.2.2.find? (fun q => q.1 == 309) = some (309, 0, 249) := by decide
theorem ml13_312 : ck_T13.2.2.2.2.2.2.2.find? (fun q => q.1 == 312) = some (312, 0, 253) := by decide
theorem ml13_315 : ck_T13.2.2.2.2.2.2.2.find? (fun q => q.1 == 315) = some (315, 0, 252) := by decide
theorem ml13_321 : ck_T13.2.2.2.2.2.2.2.find? (fun q => q.1 == 321) = some (321, 0, 256) := by decide
theorem ml13_330 : ck_T13.2.2.2.2.2.2.2.find? (fun q => q.1 == 330) = some (330, 0, 255) := by decide
theorem ml13_333 : ck_T13.2.2.2.2.2.2.2.find? (fun q => q.1 == 333) = some (333, 0, 258) := by decide
theorem ml13_337 : ck_T13.2.2.2.2.2.2.2.find? (fun q => q.1 == 337) = some (337, 0, 265) := by decide
theorem ml13_341 : ck_T13.2.2.2.2.2.2.2.find? (fun q => q.1 == 341) = some (341, 0, 261) := by decide
theorem ml13_344 : ck_T13.2.2.2.2.2.2.2.find? (fun q => q.1 == 344) = some (344, 1, 267) := by decide
theorem ml13_347 : ck_T13.2.2.2.2.2.2.2.find? (fun q => q.1 == 347) = some (347, 0, 268) := by decide
theorem ml13_351 : ck_T13.2.2.2.2.2.2.2.find? (fun q => q.1 == 351) = some (351, 1, 263) := by decide
theorem ml13_354 : ck_T13.2.2.2.2.2.2.2.find? (fun q => q.1 == 354) = some (354, 0, 264) := by decide
theorem ml13_357 : ck_T13.2.2.2.2.2.2.2.find? (fun q => q.1 == 357) = some (357, 0, 266) := by decide
theorem ml13_360 : ck_T13.2.2.2.2.2.2.2.find? (fun q => q.1 == 360) = some (360, 1, 260) := by decide
theorem ml13_363 : ck_T13.2.2.2.2.2.2.2.find? (fun q => q.1 == 363) = some (363, 0, 262) := by decide
theorem ml13_366 : ck_T13.2.2.2.2.2.2.2.find? (fun q => q.1 == 366) = some (366, 0, 270) := by decide
theorem ml13_369 : ck_T13.2.2.2.2.2.2.2.find? (fun q => q.1 == 369) = some (369, 0, 271) := by decide
theorem ml13_372 : ck_T13.2.2.2.2.2.2.2.find? (fun q => q.1 == 372) = some (372, 1, 272) := by decide
theorem ml13_375 : ck_T13.2.2.2.2.2.2.2.find? (fun q => q.1 == 375) = some (375, 0, 276) := by decide
theorem ml13_378 : ck_T13.2.2.2.2.2.2.2.find? (fun q => q.1 == 378) = some (378, 0, 274) := by decide
theorem ml13_381 : ck_T13.2.2.2.2.2.2.2.find? (fun q => q.1 == 381) = some (381, 0, 275) := by decide
theorem ml13_384 : ck_T13.2.2.2.2.2.2.2.find? (fun q => q.1 == 384) = some (384, 0, 278) := by decide
theorem ml13_387 : ck_T13.2.2.2.2.2.2.2.find? (fun q => q.1 == 387) = some (387, 0, 283) := by decide
theorem ml13_390 : ck_T13.2.2.2.2.2.2.2.find? (fun q => q.1 == 390) = some (390, 0, 286) := by decide
theorem ml13_393 : ck_T13.2.2.2.2.2.2.2.find? (fun q => q.1 == 393) = some (393, 0, 285) := by decide
theorem ml13_396 : ck_T13.2.2.2.2.2.2.2.find? (fun q => q.1 == 396) = some (396, 0, 287) := by decide

