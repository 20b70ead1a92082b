/-! what fewest wants of fews, lays, worst, out of their tables -/
def fw_X : ab_D := ((97, (0, 1, 25)), .inl (-1, 1)) :: ((95, (0, 1, 59808)), .inl (-128, 127)) :: ((96, (0, 1, 6)), .inl (0, 1)) :: rr_ft
theorem fw_I.gd {h : mm_h} (f : fw_I h) : ab_gd gk_G h fw_X := by
  refine ab_gd.cons (ab_gx.row f.2.2.1) (ab_gd.cons (ab_gx.row f.2.2.2.1) (ab_gd.cons (ab_gx.row f.2.2.2.2) (fun x hx => ?_)))
  obtain ⟨q, hq, rfl⟩ := List.mem_map.mp hx
  refine ⟨fun t ht => ?_, fun g e => by cases e⟩
  have t0 : t = 0 := by have : t < 1 := ht; omega
  subst t0
  show mm_A (h.2.2.2 77 (q.1 + 1 * 0)) = mm_A (some q.2)
  rw [Nat.mul_zero, Nat.add_zero, f.2.1.2 q hq]
theorem fw_I_of {h : mm_h} (hs : ab_sh ck_sh 101 h) (hX : ab_gd gk_G h fw_X) : fw_I h := ⟨hs, rr_A_of hs hX (fun x hx => .tail _ (.tail _ (.tail _ hx))), ab_gd.row hX (.head _), ab_gd.row hX (.tail _ (.head _)), ab_gd.row hX (.tail _ (.tail _ (.head _)))⟩
def ab_wsub (wr wr' : List (Nat × ab_P)) : Bool := wr.all fun w => wr'.any fun v => v.1 == w.1 && ab_ssub w.2 v.2
theorem ab_fr.wsub {wr wr' : List (Nat × ab_P)} {h h' : mm_h} (f : ab_fr wr h h') (hs : ab_wsub wr wr' = true) : ab_fr wr' h h' := ⟨f.1, fun i k hi hn => f.2 i k hi (fun w hw e hm => by
  obtain ⟨v, hv, h1⟩ := List.any_eq_true.mp (List.all_eq_true.mp hs w hw)
  simp only [Bool.and_eq_true, beq_iff_eq] at h1
  exact hn v hv (h1.1.trans e) (ab_ssub_ok h1.2 hm))⟩
theorem fw_X_in {h : mm_h} (hs : ab_sh ck_sh 101 h) : ∀ x ∈ fw_X, x.1.1 < h.1 := fun x hx => Nat.lt_of_lt_of_le ((by decide : ∀ x ∈ fw_X, x.1.1 < 101) x hx) hs.1
theorem fw_post {h h' : mm_h} {us : List mm_v} {r : Option mm_v} {co : ab_C} (hc : ab_stay fw_X co = true) (hw : ab_wsub co.2.2.2.2.1 wr_few = true) (hI : fw_I h) (hp : (ab_m gk_G ck_sh co).2.2.2 us h r h') : fw_R h h' ∧ ∃ o ∈ co.2.2.2.2.2.1, ab_rv h' o.1 r := by
  obtain ⟨h1, h2, o, ho, h3, -⟩ := ab_stay_post hc (fw_X_in hI.1) hI.gd hp
  obtain ⟨-, -, -, -, -, -, f⟩ := hp
  exact ⟨⟨f.wsub hw, fw_I_of h1 h2⟩, o, ho, h3⟩
theorem ab_rv_none {h : mm_h} {co : ab_C} {o : ab_O} {r : Option mm_v} (hn : co.2.2.2.2.2.1.all (fun o => o.1.isNone) = true) (ho : o ∈ co.2.2.2.2.2.1) (hr : ab_rv h o.1 r) : r = none := by
  have := List.all_eq_true.mp hn o ho
  cases ho1 : o.1 with
  | some F => rw [ho1] at this; cases this
  | none =>
    rw [ho1] at hr
    cases r with
    | none => rfl
    | some v => exact hr.elim
def ab_isn (o : ab_O) : Bool := match o.1 with
  | some (.inl _) => true
  | _ => false
theorem ab_rv_num {h : mm_h} {co : ab_C} {o : ab_O} {r : Option mm_v} (hn : co.2.2.2.2.2.1.all ab_isn = true) (ho : o ∈ co.2.2.2.2.2.1) (hr : ab_rv h o.1 r) : ∃ v : Int32, r = some (mm_I v) := by
  have := List.all_eq_true.mp hn o ho
  unfold ab_isn at this
  cases ho1 : o.1 with
  | none => rw [ho1] at this; cases this
  | some F =>
    rw [ho1] at hr this
    cases F with
    | inr q => cases this
    | inl z =>
      cases r with
      | none => exact hr.elim
      | some v =>
        obtain ⟨x, e, -⟩ := (hr : ab_va h (.inl z) v)
        exact ⟨x, by rw [e]⟩
theorem fw_fO {co : ab_C} (h1 : co.1 = 262) (h2 : co.2.2.2.2.2.2 = (3, 76, 0, 0)) (h3 : co.2.1 = 101 ∧ co.2.2.1 = [.inr (0, 77), .inl (2, 5)]) (hc : ab_stay fw_X co = true) (hw : ab_wsub co.2.2.2.2.1 wr_few = true) (hn : co.2.2.2.2.2.1.all (fun o => o.1.isNone) = true) : fw_f (ab_m gk_G ck_sh co) := by
  refine ⟨h1, h2, fun h x hI a b => ⟨by rw [h3.1]; exact hI.1, ?_, ab_stay_pre hc hI.gd⟩, fun h x r h' hI hp => ?_⟩
  · rw [h3.2]; exact ⟨rfl, ⟨x, rfl, a, b⟩, trivial⟩
  · obtain ⟨q, o, ho, hr⟩ := fw_post hc hw hI hp
    exact ⟨ab_rv_none hn ho hr, q⟩
theorem fw_lO {co : ab_C} (h1 : co.1 = 265) (h2 : co.2.2.2.2.2.2 = (0, 0, 0, 0)) (h3 : co.2.1 = 101 ∧ co.2.2.1 = [.inr (0, 77), .inl (2, 5), .inl (0, 59048)]) (hc : ab_stay fw_X co = true) (hw : ab_wsub co.2.2.2.2.1 wr_few = true) (hn : co.2.2.2.2.2.1.all (fun o => o.1.isNone) = true) : fw_l (ab_m gk_G ck_sh co) := by
  refine ⟨h1, h2, fun h x k hI a b c d => ⟨by rw [h3.1]; exact hI.1, ?_, ab_stay_pre hc hI.gd⟩, fun h x k r h' hI hp => ?_⟩
  · rw [h3.2]; exact ⟨rfl, ⟨x, rfl, a, b⟩, ⟨k, rfl, c, d⟩, trivial⟩
  · obtain ⟨q, o, ho, hr⟩ := fw_post hc hw hI hp
    exact ⟨ab_rv_none hn ho hr, q⟩
theorem fw_wO {co : ab_C} (h1 : co.1 = 266) (h2 : co.2.2.2.2.2.2 = (2, 50, 0, 0)) (h3 : co.2.1 = 101 ∧ co.2.2.1 = [.inr (0, 77), .inl (2, 5), .inl (0, 59048), .inl (0, 4), .inl (0, 4)]) (hc : ab_stay fw_X co = true) (hw : ab_wsub co.2.2.2.2.1 wr_few = true) (hn : co.2.2.2.2.2.1.all ab_isn = true) : fw_w (ab_m gk_G ck_sh co) := by
  refine ⟨h1, h2, fun h x k a b hI x0 x1 k0 k1 a0 a1 b0 b1 => ⟨by rw [h3.1]; exact hI.1, ?_, ab_stay_pre hc hI.gd⟩, fun h x k a b r h' hI hp => ?_⟩
  · rw [h3.2]; exact ⟨rfl, ⟨x, rfl, x0, x1⟩, ⟨k, rfl, k0, k1⟩, ⟨a, rfl, a0, a1⟩, ⟨b, rfl, b0, b1⟩, trivial⟩
  · obtain ⟨q, o, ho, hr⟩ := fw_post hc hw hI hp
    exact ⟨ab_rv_num hn ho hr, q⟩
