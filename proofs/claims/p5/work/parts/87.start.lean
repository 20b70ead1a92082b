/-! THE LAW FROM ITS ENTRY -/
theorem ck_okIn : ∀ (ci : Nat) (C : String) (T : u_T) (N : Nat), vwCl[ci]? = some (C, T, N) → Cond.instantiable C N ∈ ck_TS := by
  intro ci C T N h
  match ci, h with
  | 0, h => cases h; exact (ck_mem 153 (by decide +kernel) rfl)
  | 1, h => cases h; exact (ck_mem 396 (by decide +kernel) rfl)
  | 2, h => cases h; exact (ck_mem 457 (by decide +kernel) rfl)
  | 3, h => cases h; exact (ck_mem 363 (by decide +kernel) rfl)
  | 4, h => cases h; exact (ck_mem 317 (by decide +kernel) rfl)
  | 5, h => cases h; exact (ck_mem 277 (by decide +kernel) rfl)
  | 6, h => cases h; exact (ck_mem 422 (by decide +kernel) rfl)
  | 7, h => cases h; exact (ck_mem 435 (by decide +kernel) rfl)
  | 8, h => cases h; exact (ck_mem 259 (by decide +kernel) rfl)
  | 9, h => cases h; exact (ck_mem 160 (by decide +kernel) rfl)
  | 10, h => cases h; exact (ck_mem 334 (by decide +kernel) rfl)
  | 11, h => cases h; exact (ck_mem 145 (by decide +kernel) rfl)
  | 12, h => cases h; exact (ck_mem 1294 (by decide +kernel) rfl)
  | k + 13, h => simp [vwCl] at h
/-- what the Statement says of a literal's bytes -/
def ms_need (own : String) (x n : Nat) (byt : List Int32) : List Cond := .exactly (.string own x) "java/lang/String" :: .eq (.field (.string own x) "java/lang/String" "coder" "B") (.int 0) :: .arrayOf (.field (.string own x) "java/lang/String" "value" "[B") .byte :: .eq (.length (.field (.string own x) "java/lang/String" "value" "[B")) (.int (Int32.ofNat n)) :: (List.range n).map (fun j => .eq (.elem (.field (.string own x) "java/lang/String" "value" "[B") (.int (Int32.ofNat j))) (.int (byt.getD j 0)))
def ms_stat : List Cond := [.eq (.static "java/lang/String" "COMPACT_STRINGS" "Z") (.int 1), .isRef (.static "jdk/internal/util/Preconditions" "SIOOBE_FORMATTER" "Ljava/util/function/BiFunction;")]
theorem ms_stat_in : ∀ w ∈ ms_stat, w ∈ flatC (Jvm.Cond.and given_1 narrow_1) := by decide +kernel
theorem ms_lit {own tx : String} {x n b : Nat} {s : State} (byt : List Int32) (hts : ∀ w ∈ lw_tbl, w.before #[Value.ref b] s = true) (hgv : (Jvm.Cond.and given_1 narrow_1).before #[Value.ref b] s = true) (hn : n < 100) (h1 : Cond.stringRef own x tx ∈ lw_tbl) (h2 : ∀ w ∈ ms_need own x n byt, w ∈ flatC (Jvm.Cond.and given_1 narrow_1)) : ∃ a, (∃ tx, vk_R own x tx a s) ∧ ms_X n a (fun q => s.heap.size ≤ q) s s.heap := by
  have hf := flat_of_before _ hgv
  have hA : ∀ a : Nat, a < s.heap.size → ¬ (fun q => s.heap.size ≤ q) a := fun a ha => Nat.not_le.mpr ha
  obtain ⟨a, c, cA, kA, q1, q2, q3, q4, q5, q6, -⟩ := Cond.exactly_spec (args := #[Value.ref b]) (first := s) (o := none) (s := s) (idx := []) (t := .string own x) (cls := "java/lang/String") (hf _ (h2 _ (.head _)))
  obtain ⟨t, ht, hT⟩ := va_Tof (f := fun j => .int (byt.getD j 0)) (A := fun q => s.heap.size ≤ q) (by omega) (hf _ (h2 _ (.tail _ (.tail _ (.head _))))) (va_eqt (hf _ (h2 _ (.tail _ (.tail _ (.tail _ (.head _))))))) (fun j hj => va_eqt (hf _ (h2 _ (.tail _ (.tail _ (.tail _ (.tail _ (List.mem_map.mpr ⟨j, List.mem_range.mpr hj, rfl⟩)))))))) hA
  refine ⟨a, ⟨tx, vk_R.of (hts _ h1) q1⟩, va_Zof (hts _ (List.mem_of_getElem? (i := 629) (by decide +kernel))) (hts _ (List.mem_of_getElem? (i := 138) (by decide +kernel))) (va_eqt (hf _ (ms_stat_in _ (.head _)))) hA, va_Zqof (hts _ (List.mem_of_getElem? (i := 645) (by decide +kernel))) (hts _ (List.mem_of_getElem? (i := 140) (by decide +kernel))) (hf _ (ms_stat_in _ (.tail _ (.head _)))) hA, ⟨cA, q3, q5, by rw [q6]; exact q2, hA a (Array.getElem?_eq_some_iff.mp q3).1⟩, vk_OFof q1 (va_eqt (hf _ (h2 _ (.tail _ (.head _))))) hA, t, _, vk_OFof q1 ht hA, hT⟩
set_option maxRecDepth 20000 in
theorem ms_lit0 {b : Nat} {s : State} (hts : ∀ w ∈ lw_tbl, w.before #[Value.ref b] s = true) (hgv : (Jvm.Cond.and given_1 narrow_1).before #[Value.ref b] s = true) : ∃ a, (∃ tx, vk_R "ScratchLadder$Reader" 104 tx a s) ∧ ms_X 4 a (fun q => s.heap.size ≤ q) s s.heap := ms_lit (tx := "rung") [114, 117, 110, 103] hts hgv (by decide) (List.mem_of_getElem? (i := 611) (by decide +kernel)) (by decide +kernel)
set_option maxRecDepth 20000 in
theorem ms_lit1 {b : Nat} {s : State} (hts : ∀ w ∈ lw_tbl, w.before #[Value.ref b] s = true) (hgv : (Jvm.Cond.and given_1 narrow_1).before #[Value.ref b] s = true) : ∃ a, (∃ tx, vk_R "ScratchLadder$Reader" 118 tx a s) ∧ ms_X 2 a (fun q => s.heap.size ≤ q) s s.heap := ms_lit (tx := "if") [105, 102] hts hgv (by decide) (List.mem_of_getElem? (i := 734) (by decide +kernel)) (by decide +kernel)
set_option maxRecDepth 20000 in
theorem ms_lit2 {b : Nat} {s : State} (hts : ∀ w ∈ lw_tbl, w.before #[Value.ref b] s = true) (hgv : (Jvm.Cond.and given_1 narrow_1).before #[Value.ref b] s = true) : ∃ a, (∃ tx, vk_R "ScratchLadder$Reader" 139 tx a s) ∧ ms_X 2 a (fun q => s.heap.size ≤ q) s s.heap := ms_lit (tx := "is") [105, 115] hts hgv (by decide) (List.mem_of_getElem? (i := 676) (by decide +kernel)) (by decide +kernel)
set_option maxRecDepth 20000 in
theorem ms_lit3 {b : Nat} {s : State} (hts : ∀ w ∈ lw_tbl, w.before #[Value.ref b] s = true) (hgv : (Jvm.Cond.and given_1 narrow_1).before #[Value.ref b] s = true) : ∃ a, (∃ tx, vk_R "ScratchLadder$Reader" 127 tx a s) ∧ ms_X 4 a (fun q => s.heap.size ≤ q) s s.heap := ms_lit (tx := "cuts") [99, 117, 116, 115] hts hgv (by decide) (List.mem_of_getElem? (i := 685) (by decide +kernel)) (by decide +kernel)
set_option maxRecDepth 20000 in
theorem ms_lit4 {b : Nat} {s : State} (hts : ∀ w ∈ lw_tbl, w.before #[Value.ref b] s = true) (hgv : (Jvm.Cond.and given_1 narrow_1).before #[Value.ref b] s = true) : ∃ a, (∃ tx, vk_R "ScratchLadder$Reader" 129 tx a s) ∧ ms_X 4 a (fun q => s.heap.size ≤ q) s s.heap := ms_lit (tx := "both") [98, 111, 116, 104] hts hgv (by decide) (List.mem_of_getElem? (i := 686) (by decide +kernel)) (by decide +kernel)
set_option maxRecDepth 20000 in
theorem ms_lit5 {b : Nat} {s : State} (hts : ∀ w ∈ lw_tbl, w.before #[Value.ref b] s = true) (hgv : (Jvm.Cond.and given_1 narrow_1).before #[Value.ref b] s = true) : ∃ a, (∃ tx, vk_R "ScratchLadder$Reader" 131 tx a s) ∧ ms_X 4 a (fun q => s.heap.size ≤ q) s s.heap := ms_lit (tx := "deep") [100, 101, 101, 112] hts hgv (by decide) (List.mem_of_getElem? (i := 687) (by decide +kernel)) (by decide +kernel)
set_option maxRecDepth 20000 in
theorem ms_lit6 {b : Nat} {s : State} (hts : ∀ w ∈ lw_tbl, w.before #[Value.ref b] s = true) (hgv : (Jvm.Cond.and given_1 narrow_1).before #[Value.ref b] s = true) : ∃ a, (∃ tx, vk_R "ScratchLadder$Reader" 133 tx a s) ∧ ms_X 4 a (fun q => s.heap.size ≤ q) s s.heap := ms_lit (tx := "dent") [100, 101, 110, 116] hts hgv (by decide) (List.mem_of_getElem? (i := 688) (by decide +kernel)) (by decide +kernel)
set_option maxRecDepth 20000 in
theorem ms_lit7 {b : Nat} {s : State} (hts : ∀ w ∈ lw_tbl, w.before #[Value.ref b] s = true) (hgv : (Jvm.Cond.and given_1 narrow_1).before #[Value.ref b] s = true) : ∃ a, (∃ tx, vk_R "ScratchLadder$Reader" 187 tx a s) ∧ ms_X 5 a (fun q => s.heap.size ≤ q) s s.heap := ms_lit (tx := "point") [112, 111, 105, 110, 116] hts hgv (by decide) (List.mem_of_getElem? (i := 721) (by decide +kernel)) (by decide +kernel)
set_option maxRecDepth 20000 in
theorem ms_lit8 {b : Nat} {s : State} (hts : ∀ w ∈ lw_tbl, w.before #[Value.ref b] s = true) (hgv : (Jvm.Cond.and given_1 narrow_1).before #[Value.ref b] s = true) : ∃ a, (∃ tx, vk_R "ScratchLadder$Reader" 189 tx a s) ∧ ms_X 5 a (fun q => s.heap.size ≤ q) s s.heap := ms_lit (tx := "plane") [112, 108, 97, 110, 101] hts hgv (by decide) (List.mem_of_getElem? (i := 722) (by decide +kernel)) (by decide +kernel)
set_option maxRecDepth 20000 in
theorem ms_lit9 {b : Nat} {s : State} (hts : ∀ w ∈ lw_tbl, w.before #[Value.ref b] s = true) (hgv : (Jvm.Cond.and given_1 narrow_1).before #[Value.ref b] s = true) : ∃ a, (∃ tx, vk_R "ScratchLadder$Reader" 191 tx a s) ∧ ms_X 4 a (fun q => s.heap.size ≤ q) s s.heap := ms_lit (tx := "load") [108, 111, 97, 100] hts hgv (by decide) (List.mem_of_getElem? (i := 723) (by decide +kernel)) (by decide +kernel)
set_option maxRecDepth 20000 in
theorem ms_lit10 {b : Nat} {s : State} (hts : ∀ w ∈ lw_tbl, w.before #[Value.ref b] s = true) (hgv : (Jvm.Cond.and given_1 narrow_1).before #[Value.ref b] s = true) : ∃ a, (∃ tx, vk_R "ScratchLadder$Reader" 193 tx a s) ∧ ms_X 4 a (fun q => s.heap.size ≤ q) s s.heap := ms_lit (tx := "hand") [104, 97, 110, 100] hts hgv (by decide) (List.mem_of_getElem? (i := 724) (by decide +kernel)) (by decide +kernel)
set_option maxRecDepth 20000 in
theorem ms_lit11 {b : Nat} {s : State} (hts : ∀ w ∈ lw_tbl, w.before #[Value.ref b] s = true) (hgv : (Jvm.Cond.and given_1 narrow_1).before #[Value.ref b] s = true) : ∃ a, (∃ tx, vk_R "ScratchLadder$Reader" 195 tx a s) ∧ ms_X 4 a (fun q => s.heap.size ≤ q) s s.heap := ms_lit (tx := "face") [102, 97, 99, 101] hts hgv (by decide) (List.mem_of_getElem? (i := 725) (by decide +kernel)) (by decide +kernel)
set_option maxRecDepth 20000 in
theorem ms_lit12 {b : Nat} {s : State} (hts : ∀ w ∈ lw_tbl, w.before #[Value.ref b] s = true) (hgv : (Jvm.Cond.and given_1 narrow_1).before #[Value.ref b] s = true) : ∃ a, (∃ tx, vk_R "ScratchLadder$Reader" 197 tx a s) ∧ ms_X 3 a (fun q => s.heap.size ≤ q) s s.heap := ms_lit (tx := "way") [119, 97, 121] hts hgv (by decide) (List.mem_of_getElem? (i := 726) (by decide +kernel)) (by decide +kernel)
set_option maxRecDepth 20000 in
theorem ms_lit13 {b : Nat} {s : State} (hts : ∀ w ∈ lw_tbl, w.before #[Value.ref b] s = true) (hgv : (Jvm.Cond.and given_1 narrow_1).before #[Value.ref b] s = true) : ∃ a, (∃ tx, vk_R "ScratchLadder$Reader" 199 tx a s) ∧ ms_X 6 a (fun q => s.heap.size ≤ q) s s.heap := ms_lit (tx := "corner") [99, 111, 114, 110, 101, 114] hts hgv (by decide) (List.mem_of_getElem? (i := 727) (by decide +kernel)) (by decide +kernel)
set_option maxRecDepth 20000 in
theorem ms_lit14 {b : Nat} {s : State} (hts : ∀ w ∈ lw_tbl, w.before #[Value.ref b] s = true) (hgv : (Jvm.Cond.and given_1 narrow_1).before #[Value.ref b] s = true) : ∃ a, (∃ tx, vk_R "ScratchLadder$Reader" 201 tx a s) ∧ ms_X 5 a (fun q => s.heap.size ≤ q) s s.heap := ms_lit (tx := "stone") [115, 116, 111, 110, 101] hts hgv (by decide) (List.mem_of_getElem? (i := 728) (by decide +kernel)) (by decide +kernel)
set_option maxRecDepth 20000 in
theorem ms_lit15 {b : Nat} {s : State} (hts : ∀ w ∈ lw_tbl, w.before #[Value.ref b] s = true) (hgv : (Jvm.Cond.and given_1 narrow_1).before #[Value.ref b] s = true) : ∃ a, (∃ tx, vk_R "ScratchLadder$Reader" 148 tx a s) ∧ ms_X 2 a (fun q => s.heap.size ≤ q) s s.heap := ms_lit (tx := "or") [111, 114] hts hgv (by decide) (List.mem_of_getElem? (i := 762) (by decide +kernel)) (by decide +kernel)
set_option maxRecDepth 20000 in
theorem ms_lit16 {b : Nat} {s : State} (hts : ∀ w ∈ lw_tbl, w.before #[Value.ref b] s = true) (hgv : (Jvm.Cond.and given_1 narrow_1).before #[Value.ref b] s = true) : ∃ a, (∃ tx, vk_R "ScratchLadder$Reader" 161 tx a s) ∧ ms_X 3 a (fun q => s.heap.size ≤ q) s s.heap := ms_lit (tx := "and") [97, 110, 100] hts hgv (by decide) (List.mem_of_getElem? (i := 756) (by decide +kernel)) (by decide +kernel)
set_option maxRecDepth 20000 in
theorem ms_lit17 {b : Nat} {s : State} (hts : ∀ w ∈ lw_tbl, w.before #[Value.ref b] s = true) (hgv : (Jvm.Cond.and given_1 narrow_1).before #[Value.ref b] s = true) : ∃ a, (∃ tx, vk_R "ScratchLadder$Reader" 163 tx a s) ∧ ms_X 3 a (fun q => s.heap.size ≤ q) s s.heap := ms_lit (tx := "not") [110, 111, 116] hts hgv (by decide) (List.mem_of_getElem? (i := 747) (by decide +kernel)) (by decide +kernel)
theorem ms_lits {b : Nat} {s : State} (hts : ∀ w ∈ lw_tbl, w.before #[Value.ref b] s = true) (hgv : (Jvm.Cond.and given_1 narrow_1).before #[Value.ref b] s = true) : ∃ st : Nat → Nat, st 900 = b ∧ (∀ q ∈ ck_SL, ∃ tx, vk_R q.1 q.2.1 tx (st q.2.2) s) ∧ ∀ k n, mm_SN[k]? = some n → ms_X n (st k) (fun q => s.heap.size ≤ q) s s.heap := by
  obtain ⟨a0, t0, u0⟩ := ms_lit0 hts hgv
  obtain ⟨a1, t1, u1⟩ := ms_lit1 hts hgv
  obtain ⟨a2, t2, u2⟩ := ms_lit2 hts hgv
  obtain ⟨a3, t3, u3⟩ := ms_lit3 hts hgv
  obtain ⟨a4, t4, u4⟩ := ms_lit4 hts hgv
  obtain ⟨a5, t5, u5⟩ := ms_lit5 hts hgv
  obtain ⟨a6, t6, u6⟩ := ms_lit6 hts hgv
  obtain ⟨a7, t7, u7⟩ := ms_lit7 hts hgv
  obtain ⟨a8, t8, u8⟩ := ms_lit8 hts hgv
  obtain ⟨a9, t9, u9⟩ := ms_lit9 hts hgv
  obtain ⟨a10, t10, u10⟩ := ms_lit10 hts hgv
  obtain ⟨a11, t11, u11⟩ := ms_lit11 hts hgv
  obtain ⟨a12, t12, u12⟩ := ms_lit12 hts hgv
  obtain ⟨a13, t13, u13⟩ := ms_lit13 hts hgv
  obtain ⟨a14, t14, u14⟩ := ms_lit14 hts hgv
  obtain ⟨a15, t15, u15⟩ := ms_lit15 hts hgv
  obtain ⟨a16, t16, u16⟩ := ms_lit16 hts hgv
  obtain ⟨a17, t17, u17⟩ := ms_lit17 hts hgv
  refine ⟨fun i => if i = 900 then b else ([a0, a1, a2, a3, a4, a5, a6, a7, a8, a9, a10, a11, a12, a13, a14, a15, a16, a17] : List Nat).getD i 0, rfl, (ck_cons t0 (ck_cons t1 (ck_cons t2 (ck_cons t3 (ck_cons t4 (ck_cons t5 (ck_cons t6 (ck_cons t7 (ck_cons t8 (ck_cons t9 (ck_cons t10 (ck_cons t11 (ck_cons t12 (ck_cons t13 (ck_cons t14 (ck_cons t15 (ck_cons t16 (ck_cons t17 ck_nil)))))))))))))))))), fun k n hk => ?_⟩
  match k, hk with
  | 0, hk => cases hk; exact u0
  | 1, hk => cases hk; exact u1
  | 2, hk => cases hk; exact u2
  | 3, hk => cases hk; exact u3
  | 4, hk => cases hk; exact u4
  | 5, hk => cases hk; exact u5
  | 6, hk => cases hk; exact u6
  | 7, hk => cases hk; exact u7
  | 8, hk => cases hk; exact u8
  | 9, hk => cases hk; exact u9
  | 10, hk => cases hk; exact u10
  | 11, hk => cases hk; exact u11
  | 12, hk => cases hk; exact u12
  | 13, hk => cases hk; exact u13
  | 14, hk => cases hk; exact u14
  | 15, hk => cases hk; exact u15
  | 16, hk => cases hk; exact u16
  | 17, hk => cases hk; exact u17
  | k + 18, hk => simp [mm_SN] at hk
def lw_gh : ab_D := [((78, (1300, 1, 8010)), .inr (8, 0)), ((79, (1300, 1, 8010)), .inr (8, 0)), ((79, (10610, 1, 8010)), .inr (8, 0))]
def lw_z0 : ab_D := [((78, (1300, 1, 10)), .inl (0, 0)), ((79, (1300, 1, 10)), .inl (0, 0)), ((79, (10610, 1, 10)), .inl (0, 0))]
theorem lw_gk {h : mm_h} {i b : Nat} (e : ∀ t, t < 10 → 0 ≤ (h.2.2.1 i (b + 1 * t)).toInt ∧ (h.2.2.1 i (b + 1 * t)).toInt ≤ 0) : ab_gx gk_G h ((i, (b, 1, 8010)), .inr (8, 0)) := ab_gxg (fun t => h.2.2.1 i (b + t)) (fun t ht => by
  have := e t ht
  rw [Nat.one_mul] at this
  exact ⟨by show 0 ≤ (h.2.2.1 i (b + t)).toInt; omega, by show (h.2.2.1 i (b + t)).toInt ≤ 400; omega, Or.inl (by show (h.2.2.1 i (b + t)).toInt = 0; omega)⟩) (fun t _ => rfl)
def ab_dfl (c : Nat) (X : ab_D) : Bool := X.all fun x => x.1.1 == c && (match x.2 with
  | .inl z => decide (z.1 ≤ 0) && decide (0 ≤ z.2)
  | .inr q => q.1 == 1)
theorem ab_dfl_ok {h : mm_h} {c : Nat} {X : ab_D} (hx : ab_dfl c X = true) (hz : ∀ k, h.2.2.1 c k = 0 ∧ h.2.2.2 c k = none) : ab_gd gk_G h X := fun x hm => by
  have h1 := List.all_eq_true.mp hx x hm
  obtain ⟨⟨i, w⟩, F⟩ := x
  rw [Bool.and_eq_true, beq_iff_eq] at h1
  obtain ⟨e, h2⟩ := h1
  have e : i = c := e
  subst e
  cases F with
  | inl z =>
    simp only [Bool.and_eq_true, decide_eq_true_eq] at h2
    refine ⟨fun t _ => ?_, fun g e => by cases e⟩
    show z.1 ≤ (h.2.2.1 i (w.1 + w.2.1 * t)).toInt ∧ (h.2.2.1 i (w.1 + w.2.1 * t)).toInt ≤ z.2
    rw [(hz _).1]
    exact h2
  | inr q =>
    obtain ⟨q1, q2⟩ := q
    have e1 : q1 = 1 := by simpa using h2
    subst e1
    refine ⟨fun t _ => ?_, fun g e => by cases e⟩
    show mm_A (h.2.2.2 i (w.1 + w.2.1 * t)) = mm_A none
    rw [(hz _).2]
def lw_d77 : ab_D := [7, 12, 13, 18, 20, 21, 32].map (fun k => ((77, (k, 1, 1)), .inl (0, 0)))
def lw_chk : Bool := ct_pre0.2.2.2.2.2.1.all (fun o1 => o1.1.isNone && o1.2.2.2 == 77 && o1.2.2.1.all (fun x => decide (x.1.1 < 77)) && ct_pre1.2.2.2.2.2.1.all (fun o2 => o2.1.isNone && o2.2.2.2 == 101 && ab_subD [] (o2.2.2.1, []) lw_z0 && ab_subD [] (lw_gh ++ (o2.2.2.1 ++ ab_keepD ct_pre1.2.2.2.2.1 (o1.2.2.1 ++ lw_d77)), []) lw_X0 && ab_subD [] (o2.2.2.1 ++ ab_keepD ct_pre1.2.2.2.2.1 (o1.2.2.1 ++ lw_d77), []) lw_z1))
theorem lw_chk_ok : lw_chk = true := by decide +kernel
theorem lw_begin {Ln : Nat} {xs : Nat → Int32} (hL : Ln ≤ 3584) : lw_W lw_cs Ln xs (0, [(0, mm_O 900)], [], (0, (fun _ => .inl (0, 0)), (fun _ _ => 0), fun _ _ => none), 0, 0) := by
  refine lw_new (c := 11) (tl := ck_tl11) dl_0 (by decide +kernel) rfl rfl (by decide) (by decide) ?_
  have z1 : ∀ k, (mm_new (0, (fun _ => .inl (0, 0)), (fun _ _ => 0), fun _ _ => none) (.inl (11, ck_tl11.length))).2.2.1 0 k = 0 ∧ (mm_new (0, (fun _ => .inl (0, 0)), (fun _ _ => 0), fun _ _ => none) (.inl (11, ck_tl11.length))).2.2.2 0 k = none := fun k => ⟨rfl, rfl⟩
  have s1 : ab_sh ck_sh 1 (mm_new (0, (fun _ => .inl (0, 0)), (fun _ _ => 0), fun _ _ => none) (.inl (11, ck_tl11.length))) := ⟨Nat.le_refl _, fun _ => rfl, fun i hi => by
    have : i = 0 := by omega
    subst this
    rfl⟩
  have c1 : (mm_new (0, (fun _ => .inl (0, 0)), (fun _ _ => 0), fun _ _ => none) (.inl (11, ck_tl11.length))).1 = 1 := rfl
  show lw_W lw_cs Ln xs (3, _, [mm_A (some 0)], mm_new (0, (fun _ => .inl (0, 0)), (fun _ _ => 0), fun _ _ => none) (.inl (11, ck_tl11.length)), 1, 15)
  generalize mm_new (0, (fun _ => .inl (0, 0)), (fun _ _ => 0), fun _ _ => none) (.inl (11, ck_tl11.length)) = h1 at z1 s1 c1 ⊢
  refine lw_dup dl_3 ?_
  refine lw_cal (9, 2) (9, 2, 0) ck_m0 (ab_m gk_G ck_sh ct_pre0) [mm_A (some 0)] [mm_A (some 0)] dl_4 rfl ml12_9 (by decide) rfl (.head _) rfl rfl rfl (by decide) ⟨by decide, by decide⟩ ⟨by decide, by decide⟩ ⟨s1, ⟨rfl, trivial⟩, ab_dfl_ok (c := 0) (by decide +kernel) z1⟩ (fun r h2 hp => ?_)
  obtain ⟨o1, ho1, hr1, -, hD1, hs2, -⟩ := hp
  have k1 := List.all_eq_true.mp lw_chk_ok o1 ho1
  simp only [Bool.and_eq_true, beq_iff_eq] at k1
  obtain ⟨⟨⟨k11, k12⟩, k13⟩, k14⟩ := k1
  have er : r = none := by
    cases r with
    | none => rfl
    | some v =>
      rw [Option.isNone_iff_eq_none.mp k11] at hr1
      exact hr1.elim
  subst er
  rw [k12] at hs2
  have n77 : h2.1 = 77 := hs2.2.1 (by decide)
  show lw_W lw_cs Ln xs (7, _, [mm_A (some 0)], h2, 1 + 76, 15 + 11523)
  refine lw_as dl_7 ?_
  refine lw_new (c := 12) (tl := ck_tl12) dl_8 (by decide +kernel) rfl rfl (by decide) (by decide) ?_
  have x2 : mm_ext h2 (mm_new h2 (.inl (12, ck_tl12.length))) := mm_ext.new
  have z2 : ∀ k, (mm_new h2 (.inl (12, ck_tl12.length))).2.2.1 h2.1 k = 0 ∧ (mm_new h2 (.inl (12, ck_tl12.length))).2.2.2 h2.1 k = none := fun k => ⟨if_pos rfl, if_pos rfl⟩
  have t2 : (mm_new h2 (.inl (12, ck_tl12.length))).2.1 h2.1 = .inl (12, ck_tl12.length) := if_pos rfl
  have c2 : (mm_new h2 (.inl (12, ck_tl12.length))).1 = h2.1 + 1 := rfl
  generalize mm_new h2 (.inl (12, ck_tl12.length)) = h3 at x2 z2 t2 c2 ⊢
  rw [n77] at z2 t2 c2 ⊢
  have s3 : ab_sh ck_sh 78 h3 := ⟨by omega, fun _ => by omega, fun i hi => by
    by_cases e : i = 77
    · subst e
      rw [t2]
      rfl
    · rw [(x2.2 i (by omega)).1]
      exact hs2.2.2 i (by omega)⟩
  have hD1' := x2.gd (fun x hx => by have := of_decide_eq_true (List.all_eq_true.mp k13 x hx); omega) hD1
  have hD7 : ab_gd gk_G h3 lw_d77 := ab_dfl_ok (c := 77) (by decide) z2
  refine lw_dup dl_11 ?_
  refine lw_cal (12, 2) (12, 2, 172) ck_m172 (ab_m gk_G ck_sh ct_pre1) [mm_A (some 77)] [mm_A (some 77)] dl_12 rfl ml12_12 (by decide) rfl (.tail _ (.head _)) rfl rfl rfl (by decide) ⟨by decide, by decide⟩ ⟨by decide, by decide⟩ ⟨s3, ⟨rfl, trivial⟩, ab_dfl_ok (c := 77) (by decide +kernel) z2⟩ (fun r h4 hp => ?_)
  obtain ⟨o2, ho2, hr2, -, hD2, hs4, hf4⟩ := hp
  have k2 := List.all_eq_true.mp k14 o2 ho2
  simp only [Bool.and_eq_true, beq_iff_eq] at k2
  obtain ⟨⟨⟨⟨k21, k22⟩, k23⟩, k24⟩, k25⟩ := k2
  have er : r = none := by
    cases r with
    | none => rfl
    | some v =>
      rw [Option.isNone_iff_eq_none.mp k21] at hr2
      exact hr2.elim
  subst er
  rw [k22] at hs4
  have hz := ab_subD_gd k23 hD2
  have hg : ab_gd gk_G h4 lw_gh := ab_gd.cons (lw_gk (fun t ht => ab_gd.nums hz (.head _) t ht)) (ab_gd.cons (lw_gk (fun t ht => ab_gd.nums hz (.tail _ (.head _)) t ht)) (ab_gd.cons (lw_gk (fun t ht => ab_gd.nums hz (.tail _ (.tail _ (.head _))) t ht)) ab_gd.nil))
  have hK := hD2.app (ab_keepD_ok hf4 (fun x hx => by
    rcases List.mem_append.mp hx with hx | hx
    · have := of_decide_eq_true (List.all_eq_true.mp k13 x hx)
      omega
    · have := (by decide : ∀ x ∈ lw_d77, x.1.1 = 77) x hx
      omega) (hD1'.app hD7))
  have hJ : iv_J h4 := ⟨⟨hs4, ab_subD_gd k24 (hg.app hK)⟩, jz (ab_subD_gd k25 hK)⟩
  show lw_W lw_cs Ln xs (15, _, [mm_A (some 77)], h4, 1 + 76 + 1 + 23, 15 + 11523 + 41 + 97889)
  refine lw_as dl_15 ?_
  refine lw_ic dl_16 ?_
  refine lw_is dl_17 ?_
  exact lw_loop hL 513 0 _ h4 _ _ (by omega) (by decide) hJ (by decide) (by decide)
set_option maxHeartbeats 4000000 in
set_option maxRecDepth 100000 in
/-- THE LAW, from its entry -/
theorem whole_start {p : Program} {e : Env} {s : State} {m : MethodId} {below : List Frame} {meth : Method} {c : Code} (l : Launch) {b L : Nat} {xs : Nat → Int32} (hL : L ≤ 3584) (C0 : lw_At p s m meth c b L xs) : W p l e room_1 s m #[Value.ref b] below meth c s.heap [] 0 0 (lw_Z below #[Value.ref b] s) (entryFrame m ([Value.ref b] : List Value).toArray 4) := by
  obtain ⟨hx, hb, hr, hml, hown, hts0, hX, hbl, hlocks, hgv⟩ := id C0
  have hts : ∀ w ∈ ck_TS, w.before #[Value.ref b] s = true := fun w h => hts0 w (List.mem_filter.mp h).1
  have hk : ∀ k : Nat, ∃ y : ClassId × (Nat → Nat), ∀ q, vwCl[k]? = some q → u_Kn s q.1 q.2.1 q.2.2 y.1 y.2 := fun k => by
    cases hq : vwCl[k]? with
    | none => exact ⟨(0, fun _ => 0), fun q h => by cases h⟩
    | some q =>
      obtain ⟨C, T, N⟩ := q
      obtain ⟨cC, iS, h1⟩ := u_known hts (ck_okCl k C T N hq).1 (hts _ (ck_okIn k C T N hq))
      exact ⟨(cC, iS), fun q h => by cases h; exact h1⟩
  obtain ⟨y, hy⟩ := Classical.axiomOfChoice hk
  obtain ⟨D, hDk⟩ : ∃ D : va_G, ∀ k q, vwCl[k]? = some q → u_Kn s q.1 q.2.1 q.2.2 (D.1 k) (D.2 k) := ⟨(fun k => (y k).1, fun k => (y k).2), hy⟩
  have hK : va_K D vwCl [] s := ⟨hDk, fun k q h => by simp at h⟩
  obtain ⟨st, hsb, hsl, hst⟩ := ms_lits hts0 hgv
  have hamb : ck_amb ck_NM ck_AO ck_SL st s := ⟨(ck_cons (va_Nw.of rfl (hts0 _ (List.mem_of_getElem? (i := 154) (by decide +kernel)))) (ck_cons (va_Nw.of rfl (hts0 _ (List.mem_of_getElem? (i := 260) (by decide +kernel)))) (ck_cons (va_Nw.of rfl (hts0 _ (List.mem_of_getElem? (i := 436) (by decide +kernel)))) (ck_cons (va_Nw.of rfl (hts0 _ (List.mem_of_getElem? (i := 548) (by decide +kernel)))) (ck_cons (va_Nw.of rfl (hts0 _ (List.mem_of_getElem? (i := 880) (by decide +kernel)))) (ck_cons (va_Nw.of rfl (hts0 _ (List.mem_of_getElem? (i := 881) (by decide +kernel)))) (ck_cons (va_Nw.of rfl (hts0 _ (List.mem_of_getElem? (i := 832) (by decide +kernel)))) (ck_cons (va_Nw.of rfl (hts0 _ (List.mem_of_getElem? (i := 761) (by decide +kernel)))) ck_nil)))))))), (ck_cons (va_AO.of (hts0 _ (List.mem_of_getElem? (i := 257) (by decide +kernel)))) (ck_cons (va_AO.of (hts0 _ (List.mem_of_getElem? (i := 159) (by decide +kernel)))) ck_nil)), hsl⟩
  have hstr : mm_str st (fun q : Nat => s.heap.size ≤ q) s s.heap := ⟨va_Nw.of rfl (hts0 _ (List.mem_of_getElem? (i := 772) (by decide +kernel))), hst⟩
  have hl := lv_entry ([.ref b]) (n := 4) (Nat.le_of_ble_eq_true rfl)
  rw [lg_entry_eq]
  generalize (lg_sl ([.ref b]) ++ List.replicate (4 - (lg_sl ([.ref b])).length) Slot.unset).toArray = ls at hl ⊢
  refine lw_W_ok C0 hsb hts hamb hstr (lw_csk l D st) (lw_begin (xs := xs) hL) (fun _ => 0) [] [] s.heap [] ls [] ⟨⟨rfl, fun i hi => absurd hi (Nat.not_lt_zero _)⟩, ⟨_, hl, fun q hq => ?_⟩, rfl, (fun v hv => by cases hv), hK, (fun k q h => by simp at h), ⟨(fun i j p q h => by simp at h), (fun k q h => by simp at h)⟩, va_S.rf, Nat.le_refl _, fun i hi => absurd hi (Nat.not_lt_zero _)⟩
  have eq := List.mem_singleton.mp hq
  subst eq
  exact ⟨by show (0, Value.ref (st 900)) ∈ _; rw [hsb]; exact List.mem_cons_self, trivial⟩
