/-! the reference: its cells as rules, calls on it -/
theorem rr_lt {h : mm_h} (hA : rr_A h) {i : Nat} (hi : i < 101) : (i < h.1) = True := by
  have := hA.1.1
  simp only [eq_iff_iff, iff_true]
  omega
theorem rr_s77 {h : mm_h} (hA : rr_A h) : h.2.1 77 = .inl (12, 41) := hA.1.sh (by decide) rfl
theorem rr_s78 {h : mm_h} (hA : rr_A h) : h.2.1 78 = .inr (.int, 9310) := hA.1.sh (by decide) rfl
theorem rr_s79 {h : mm_h} (hA : rr_A h) : h.2.1 79 = .inr (.int, 18620) := hA.1.sh (by decide) rfl
theorem rr_s80 {h : mm_h} (hA : rr_A h) : h.2.1 80 = .inr (.boolean, 2) := hA.1.sh (by decide) rfl
theorem rr_s81 {h : mm_h} (hA : rr_A h) : h.2.1 81 = .inr (.byte, 86) := hA.1.sh (by decide) rfl
theorem rr_s82 {h : mm_h} (hA : rr_A h) : h.2.1 82 = .inr (.byte, 400) := hA.1.sh (by decide) rfl
theorem rr_s83 {h : mm_h} (hA : rr_A h) : h.2.1 83 = .inr (.int, 5) := hA.1.sh (by decide) rfl
theorem rr_s84 {h : mm_h} (hA : rr_A h) : h.2.1 84 = .inr (.int, 401) := hA.1.sh (by decide) rfl
theorem rr_s85 {h : mm_h} (hA : rr_A h) : h.2.1 85 = .inr (.int, 401) := hA.1.sh (by decide) rfl
theorem rr_s86 {h : mm_h} (hA : rr_A h) : h.2.1 86 = .inr (.int, 401) := hA.1.sh (by decide) rfl
theorem rr_s87 {h : mm_h} (hA : rr_A h) : h.2.1 87 = .inr (.int, 8) := hA.1.sh (by decide) rfl
theorem rr_s88 {h : mm_h} (hA : rr_A h) : h.2.1 88 = .inr (.int, 144) := hA.1.sh (by decide) rfl
theorem rr_s89 {h : mm_h} (hA : rr_A h) : h.2.1 89 = .inr (.int, 12) := hA.1.sh (by decide) rfl
theorem rr_s90 {h : mm_h} (hA : rr_A h) : h.2.1 90 = .inr (.int, 4096) := hA.1.sh (by decide) rfl
theorem rr_s91 {h : mm_h} (hA : rr_A h) : h.2.1 91 = .inr (.int, 4096) := hA.1.sh (by decide) rfl
theorem rr_s92 {h : mm_h} (hA : rr_A h) : h.2.1 92 = .inr (.int, 12) := hA.1.sh (by decide) rfl
theorem rr_s93 {h : mm_h} (hA : rr_A h) : h.2.1 93 = .inr (.int, 12) := hA.1.sh (by decide) rfl
theorem rr_s94 {h : mm_h} (hA : rr_A h) : h.2.1 94 = .inr (.int, 12) := hA.1.sh (by decide) rfl
theorem rr_s95 {h : mm_h} (hA : rr_A h) : h.2.1 95 = .inr (.byte, 59808) := hA.1.sh (by decide) rfl
theorem rr_s96 {h : mm_h} (hA : rr_A h) : h.2.1 96 = .inr (.boolean, 6) := hA.1.sh (by decide) rfl
theorem rr_s97 {h : mm_h} (hA : rr_A h) : h.2.1 97 = .inr (.int, 25) := hA.1.sh (by decide) rfl
theorem rr_s98 {h : mm_h} (hA : rr_A h) : h.2.1 98 = .inr (.int, 12) := hA.1.sh (by decide) rfl
theorem rr_s99 {h : mm_h} (hA : rr_A h) : h.2.1 99 = .inr (.int, 12) := hA.1.sh (by decide) rfl
theorem rr_s100 {h : mm_h} (hA : rr_A h) : h.2.1 100 = .inr (.int, 8) := hA.1.sh (by decide) rfl
theorem rr_r1 {h : mm_h} (hA : rr_A h) : h.2.2.2 77 1 = some 78 := hA.r 1 78 (by decide)
theorem rr_r2 {h : mm_h} (hA : rr_A h) : h.2.2.2 77 2 = some 79 := hA.r 2 79 (by decide)
theorem rr_r3 {h : mm_h} (hA : rr_A h) : h.2.2.2 77 3 = some 80 := hA.r 3 80 (by decide)
theorem rr_r4 {h : mm_h} (hA : rr_A h) : h.2.2.2 77 4 = some 81 := hA.r 4 81 (by decide)
theorem rr_r5 {h : mm_h} (hA : rr_A h) : h.2.2.2 77 5 = some 82 := hA.r 5 82 (by decide)
theorem rr_r6 {h : mm_h} (hA : rr_A h) : h.2.2.2 77 6 = some 83 := hA.r 6 83 (by decide)
theorem rr_r9 {h : mm_h} (hA : rr_A h) : h.2.2.2 77 9 = some 84 := hA.r 9 84 (by decide)
theorem rr_r10 {h : mm_h} (hA : rr_A h) : h.2.2.2 77 10 = some 85 := hA.r 10 85 (by decide)
theorem rr_r11 {h : mm_h} (hA : rr_A h) : h.2.2.2 77 11 = some 86 := hA.r 11 86 (by decide)
theorem rr_r19 {h : mm_h} (hA : rr_A h) : h.2.2.2 77 19 = some 87 := hA.r 19 87 (by decide)
theorem rr_r24 {h : mm_h} (hA : rr_A h) : h.2.2.2 77 24 = some 88 := hA.r 24 88 (by decide)
theorem rr_r25 {h : mm_h} (hA : rr_A h) : h.2.2.2 77 25 = some 89 := hA.r 25 89 (by decide)
theorem rr_r26 {h : mm_h} (hA : rr_A h) : h.2.2.2 77 26 = some 90 := hA.r 26 90 (by decide)
theorem rr_r27 {h : mm_h} (hA : rr_A h) : h.2.2.2 77 27 = some 91 := hA.r 27 91 (by decide)
theorem rr_r28 {h : mm_h} (hA : rr_A h) : h.2.2.2 77 28 = some 92 := hA.r 28 92 (by decide)
theorem rr_r30 {h : mm_h} (hA : rr_A h) : h.2.2.2 77 30 = some 93 := hA.r 30 93 (by decide)
theorem rr_r31 {h : mm_h} (hA : rr_A h) : h.2.2.2 77 31 = some 94 := hA.r 31 94 (by decide)
theorem rr_r35 {h : mm_h} (hA : rr_A h) : h.2.2.2 77 35 = some 95 := hA.r 35 95 (by decide)
theorem rr_r36 {h : mm_h} (hA : rr_A h) : h.2.2.2 77 36 = some 96 := hA.r 36 96 (by decide)
theorem rr_r37 {h : mm_h} (hA : rr_A h) : h.2.2.2 77 37 = some 97 := hA.r 37 97 (by decide)
theorem rr_r38 {h : mm_h} (hA : rr_A h) : h.2.2.2 77 38 = some 98 := hA.r 38 98 (by decide)
theorem rr_r39 {h : mm_h} (hA : rr_A h) : h.2.2.2 77 39 = some 99 := hA.r 39 99 (by decide)
theorem rr_r40 {h : mm_h} (hA : rr_A h) : h.2.2.2 77 40 = some 100 := hA.r 40 100 (by decide)

section RRC
variable {cs : List mm_C} {nL FM LM : Nat} {cc : ByteArray} {ret : Option FieldType} {Rt : Option mm_v → mm_h → Nat × Nat → Prop} {pc : Nat} {L : List (Nat × mm_v)} {S : List mm_v} {h : mm_h} {i : Instr × Nat}
theorem rr_call (q : Nat × Nat × Nat) (M : ck_MT) (co : mm_C) (us S' : List mm_v) (hA : rr_A h) (hd : decode cc pc = .ok i) (h1 : ck_inv i = some (q.1, 0)) (h2 : ck_T13.2.2.2.2.2.2.2.find? (fun z => z.1 == q.1) = some q) (h3 : q.2.1 < 6 ∧ q.2.1 % 3 = 0) (h4 : ck_mts[q.2.2]? = some M) (hm : M.1.cls = "ScratchLadderModel") (hu : us.length = M.2.2.2.2) (h5 : co ∈ cs) (h6 : co.1 = q.2.2) (h7 : S = (mm_A (some 77) :: us).reverse ++ S') (h9 : mm_wd S' ≤ 8) (h10 : co.2.1.1 + 1 ≤ FM ∧ 8 + (M.2.2.1 + 11) + co.2.1.2.1 ≤ LM) (h0 : co.2.1.2.2 = (0, 0)) (h12 : co.2.2.1 (mm_A (some 77) :: us) h)
    (K : ∀ (r : Option mm_v) (h' : mm_h), co.2.2.2 (mm_A (some 77) :: us) h r h' → mm_W vwCl ck_dt ck_mts ck_T13 cs false nL 0 0 FM LM cc ret Rt (pc + 3, L, r.toList ++ S', h', 0, 0)) : mm_W vwCl ck_dt ck_mts ck_T13 cs false nL 0 0 FM LM cc ret Rt (pc, L, S, h, 0, 0) := by
  refine mm_call_W (q.1, 0) q M co (mm_A (some 77) :: us) S' hd h1 h2 h3 h4 h5 h6 h7 ⟨hu, ?_, (12, 41), _, rr_s77 hA, rfl, hm.symm⟩ h9 h10 ⟨?_, ?_⟩ h12 (fun r h' a _ => ?_)
  · have := hA.1.1
    omega
  · rw [h0]; decide
  · rw [h0]; decide
  · rw [h0]; exact K r h' a
theorem rr_callS (q : Nat × Nat × Nat) (M : ck_MT) (co : mm_C) (us S' : List mm_v) (hd : decode cc pc = .ok i) (h1 : ck_inv i = some (q.1, 1)) (h2 : ck_T13.2.2.2.2.2.2.2.find? (fun z => z.1 == q.1) = some q) (h3 : q.2.1 < 6 ∧ q.2.1 % 3 = 1) (h4 : ck_mts[q.2.2]? = some M) (hu : us.length = M.2.2.2.2) (h5 : co ∈ cs) (h6 : co.1 = q.2.2) (h7 : S = us.reverse ++ S') (h9 : mm_wd S' ≤ 8) (h10 : co.2.1.1 + 1 ≤ FM ∧ 8 + (M.2.2.1 + 11) + co.2.1.2.1 ≤ LM) (h0 : co.2.1.2.2 = (0, 0)) (h12 : co.2.2.1 us h)
    (K : ∀ (r : Option mm_v) (h' : mm_h), co.2.2.2 us h r h' → mm_W vwCl ck_dt ck_mts ck_T13 cs false nL 0 0 FM LM cc ret Rt (pc + 3, L, r.toList ++ S', h', 0, 0)) : mm_W vwCl ck_dt ck_mts ck_T13 cs false nL 0 0 FM LM cc ret Rt (pc, L, S, h, 0, 0) := by
  refine mm_call_W (q.1, 1) q M co us S' hd h1 h2 h3 h4 h5 h6 h7 hu h9 h10 ⟨?_, ?_⟩ h12 (fun r h' a _ => ?_)
  · rw [h0]; decide
  · rw [h0]; decide
  · rw [h0]; exact K r h' a
end RRC
