/-! a call by a table's contract, with the places that it leaves alone -/
theorem lw_tabJ {cs : List mm_C} {Ln : Nat} {xs : Nat → Int32} {pc : Nat} {L : List (Nat × mm_v)} {S : List mm_v} {h : mm_h} {k : Nat × Nat} (x mt o : Nat) (M : ck_MT) (co : ab_C) (vs : List Int32) (S' : List mm_v) (hd : decode code pc = .ok (.invokevirtual x, 3)) (hf : ck_T12.2.2.2.2.2.2.2.find? (fun q => q.1 == x) = some (x, 0, mt)) (hM : ck_mts[mt]? = some M) (hmem : ab_m gk_G ck_sh co ∈ cs) (hmt : co.1 = mt) (ha : co.2.1 = 101 ∧ co.2.2.1 = .inr (0, o) :: List.replicate vs.length ck_all) (hn : vs.length = M.2.2.2.2) (ho : o < 101) (hob : ∃ (ob : Nat × Nat) (r : vw_C), ck_sh[o]? = some (.inl ob) ∧ vwCl[ob.1]? = some r ∧ r.1 = M.1.cls) (hS : S = (vs.map mm_I).reverse ++ mm_A (some o) :: S') (hwd : mm_wd S' ≤ 8) (hroom : co.2.2.2.2.2.2.1 + 1 ≤ 2048 ∧ 8 + (M.2.2.1 + 11) + co.2.2.2.2.2.2.2.1 ≤ 84000) (hz : co.2.2.2.2.2.2.2.2 = (0, 0)) (hst : ab_stay lw_X0 co = true) (hnum : co.2.2.2.2.2.1.all ab_isn = true) (hw : jw jp co.2.2.2.2.1 = true) (hI : iv_I h) (hk : k.1 ≤ 600000 ∧ k.2 ≤ 7302250)
    (K : ∀ (v : Int32) (h' : mm_h), iv_I h' → jk jp h h' → (∃ o' ∈ co.2.2.2.2.2.1, ab_rv h' o'.1 (some (mm_I v)) ∧ ck_iv o'.2.1 vs) → lw_W cs Ln xs (pc + 3, L, mm_I v :: S', h', k)) : lw_W cs Ln xs (pc, L, S, h, k) := by
  obtain ⟨ob, r, s1, s2, s3⟩ := hob
  have e1 : (ab_m gk_G ck_sh co).2.1.2.2.1 = 0 := (congrArg Prod.fst hz : co.2.2.2.2.2.2.2.2.1 = 0)
  have e2 : (ab_m gk_G ck_sh co).2.1.2.2.2 = 0 := (congrArg Prod.snd hz : co.2.2.2.2.2.2.2.2.2 = 0)
  refine lw_cal (x, 0) (x, 0, mt) M (ab_m gk_G ck_sh co) (mm_A (some o) :: vs.map mm_I) S' hd rfl hf ⟨(by decide : 0 < 6), rfl⟩ hM hmem hmt (by rw [hS, List.reverse_cons, List.append_assoc]; rfl) ⟨by rw [List.length_map]; exact hn, hI.1.l ho, ob, r, hI.1.s ho s1, s2, s3⟩ hwd hroom ⟨by rw [e1]; exact hk.1, by rw [e2]; exact hk.2⟩ ⟨by rw [ha.1]; exact hI.1, by rw [ha.2]; exact ⟨rfl, ab_av_all vs⟩, ab_stay_pre hst hI.2⟩ (fun r h' hp => ?_)
  have hf2 := jk.fr jp_jn (ab_m_fr hp) hI.1.1 hw
  obtain ⟨hI', o', ho', hr, hiv⟩ := iv_call hst hI hp
  obtain ⟨v, rfl⟩ := ab_rv_num hnum ho' hr
  have e3 : mm_ints (mm_A (some o) :: vs.map mm_I) = vs := mm_ints_map vs
  rw [e3] at hiv
  rw [e1, e2]
  exact K v h' hI' hf2 ⟨o', ho', hr, hiv⟩
/-! what the contracts by hand give -/
theorem hp_xstone {us : List mm_v} {h h' : mm_h} {r : Option mm_v} (p : hc_xstone.2.2.2 us h r h') : iv_I h' ∧ (∃ v : Int32, r = some (mm_I v)) ∧ ∀ a b c : Int32, us = [mm_A (some 0), mm_I a, mm_I b, mm_I c] → xs_P a b c h r h' := p
theorem hp_mstone {us : List mm_v} {h h' : mm_h} {r : Option mm_v} (p : hc_mstone.2.2.2 us h r h') : iv_I h' ∧ (∃ v : Int32, r = some (mm_I v)) ∧ ∀ a b c : Int32, us = [mm_A (some 77), mm_I a, mm_I b, mm_I c] → mst_P a b c h r h' := p
theorem hp_xplane {us : List mm_v} {h h' : mm_h} {r : Option mm_v} (p : hc_xplane.2.2.2 us h r h') : iv_I h' ∧ (∃ v : Int32, r = some (mm_I v)) ∧ ∀ s f w n : Int32, us = [mm_A (some 0), mm_I s, mm_I f, mm_I w, mm_I n] → xp_P s f w n h r h' := p
theorem hp_mplane {us : List mm_v} {h h' : mm_h} {r : Option mm_v} (p : hc_mplane.2.2.2 us h r h') : iv_I h' ∧ (∃ v : Int32, r = some (mm_I v)) ∧ ∀ s f w n : Int32, us = [mm_A (some 77), mm_I s, mm_I f, mm_I w, mm_I n] → mp_P s f w n h r h' := p
theorem hp_xpoint {us : List mm_v} {h h' : mm_h} {r : Option mm_v} (p : hc_xpoint.2.2.2 us h r h') : iv_I h' ∧ (∃ v : Int32, r = some (mm_I v)) ∧ ∀ s n : Int32, us = [mm_A (some 0), mm_I s, mm_I n] → xo_P s n h r h' := p
theorem hp_mpoint {us : List mm_v} {h h' : mm_h} {r : Option mm_v} (p : hc_mpoint.2.2.2 us h r h') : iv_I h' ∧ (∃ v : Int32, r = some (mm_I v)) ∧ ∀ s n : Int32, us = [mm_A (some 77), mm_I s, mm_I n] → mo_P s n h r h' := p
theorem hp_xknown {us : List mm_v} {h h' : mm_h} {r : Option mm_v} (p : hc_xknown.2.2.2 us h r h') : iv_I h' ∧ (∃ v : Int32, r = some (mm_I v)) ∧ ∀ a n : Int32, us = [mm_A (some 0), mm_I a, mm_I n] → xn_P a n h r h' := p
theorem hp_mknown {us : List mm_v} {h h' : mm_h} {r : Option mm_v} (p : hc_mknown.2.2.2 us h r h') : iv_I h' ∧ (∃ v : Int32, r = some (mm_I v)) ∧ ∀ a n : Int32, us = [mm_A (some 77), mm_I a, mm_I n] → mn_P a n h r h' := p
theorem hp_ximage {us : List mm_v} {h h' : mm_h} {r : Option mm_v} (p : hc_ximage.2.2.2 us h r h') : iv_I h' ∧ (∃ v : Int32, r = some (mm_I v)) ∧ ∀ k : Int32, us = [mm_A (some 0), mm_I k] → xi_P k h r h' := p
theorem hp_mimage {us : List mm_v} {h h' : mm_h} {r : Option mm_v} (p : hc_mimage.2.2.2 us h r h') : iv_I h' ∧ (∃ v : Int32, r = some (mm_I v)) ∧ ∀ k : Int32, us = [mm_A (some 77), mm_I k] → mi_P k h r h' := p
theorem hp_xback {us : List mm_v} {h h' : mm_h} {r : Option mm_v} (p : hc_xback.2.2.2 us h r h') : iv_I h' ∧ (∃ v : Int32, r = some (mm_I v)) ∧ ∀ k : Int32, us = [mm_A (some 0), mm_I k] → xb_P k h r h' := p
theorem hp_mback {us : List mm_v} {h h' : mm_h} {r : Option mm_v} (p : hc_mback.2.2.2 us h r h') : iv_I h' ∧ (∃ v : Int32, r = some (mm_I v)) ∧ ∀ k : Int32, us = [mm_A (some 77), mm_I k] → mb_P k h r h' := p
theorem hp_ctext {us : List mm_v} {h h' : mm_h} {r : Option mm_v} (p : hc_ctext.2.2.2 us h r h') : iv_I h' ∧ (∃ v : Int32, r = some (mm_I v)) ∧ jk jp h h' := p
theorem hp_mtext {us : List mm_v} {h h' : mm_h} {r : Option mm_v} (p : hc_mtext.2.2.2 us h r h') : iv_I h' ∧ (∃ v : Int32, r = some (mm_I v)) ∧ jk jp h h' := p
