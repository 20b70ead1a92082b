/-! the reference: text, image, back leave what is known -/
theorem iv_I.A {h : mm_h} (hI : iv_I h) : rr_A h := rr_A_of hI.1 (ab_subD_gd (Y := rr_ft) (by decide +kernel) hI.2) (fun x hx => hx)
theorem ab_gxg {h : mm_h} {i b n g : Nat} (f : Nat → Int32) (hg : gk_G g f) (he : ∀ t, t < n → f t = h.2.2.1 i (b + t)) : ab_gx gk_G h ((i, (b, 1, n)), .inr (8, g)) := ⟨fun t _ => trivial, fun g' e => by
  cases e
  exact ⟨f, hg, fun t ht => by rw [he t ht]; show _ = h.2.2.1 i (b + 1 * t); rw [Nat.one_mul]⟩⟩
theorem ab_gxn {Gh : Nat → (Nat → Int32) → Prop} {h : mm_h} {i b n : Nat} {lo hi : Int} (e : ∀ t, t < n → lo ≤ (h.2.2.1 i (b + t)).toInt ∧ (h.2.2.1 i (b + t)).toInt ≤ hi) : ab_gx Gh h ((i, (b, 1, n)), .inl (lo, hi)) := ⟨fun t ht => by
  show lo ≤ (h.2.2.1 i (b + 1 * t)).toInt ∧ (h.2.2.1 i (b + 1 * t)).toInt ≤ hi
  rw [Nat.one_mul]
  exact e t ht, fun g z => by cases z⟩
theorem rr_fr.le {F : Nat → Nat → Prop} {h h' : mm_h} (f : rr_fr F h h') (hF : ∀ c p, F c p → c < 101) : ab_le h h' := ⟨Nat.le_of_eq f.1.symm, fun i _ => by rw [f.2.1], fun i c _ _ _ _ => by rw [f.2.2.1]; exact ⟨rfl, rfl⟩, fun i k hi _ => f.2.2.2 i k (fun z => by have := hF i k z; omega)⟩
theorem rr_fr.gd {Gh : Nat → (Nat → Int32) → Prop} {X : ab_D} {F : Nat → Nat → Prop} {h h' : mm_h} (f : rr_fr F h h') (hF : ∀ c p, F c p → c < 101) (hn : ∀ x ∈ X, ∀ t, t < x.1.2.2.2 → ¬ F x.1.1 (x.1.2.1 + x.1.2.2.1 * t)) (hX : ab_gd Gh h X) : ab_gd Gh h' X := fun x hx => (hX x hx).keep (f.le hF) (fun t ht => ⟨f.2.2.2 _ _ (hn x hx t ht), by rw [f.2.2.1]⟩)
def tx_ok (x : (Nat × ab_P) × ck_F) : Bool := if x.1.1 = 77 then decide (x.1.2.2.2 = 1) && decide (x.1.2.1 ∉ [0, 7, 8, 12, 13, 14, 15]) else if x.1.1 = 78 then decide (x.1.2.1 + x.1.2.2.1 * (x.1.2.2.2 - 1) < 1294) || (decide (1294 < x.1.2.1) && decide (x.1.2.1 + x.1.2.2.1 * (x.1.2.2.2 - 1) < 1300)) else decide (x.1.1 ≠ 84) && decide (x.1.1 ≠ 85) && decide (x.1.1 ≠ 86)
theorem tx_ok_ok {x : (Nat × ab_P) × ck_F} (hx : tx_ok x = true) (t : Nat) (ht : t < x.1.2.2.2) : ¬ rr_txF x.1.1 (x.1.2.1 + x.1.2.2.1 * t) := by
  obtain ⟨⟨c, b, s, n⟩, F⟩ := x
  unfold tx_ok at hx
  dsimp only at hx ht ⊢
  unfold rr_txF rr_rdF
  split at hx
  · rename_i e
    simp only [Bool.and_eq_true, decide_eq_true_eq, List.mem_cons, List.not_mem_nil, or_false, not_or] at hx
    have t0 : t = 0 := by omega
    subst t0
    rw [Nat.mul_zero, Nat.add_zero]
    omega
  · split at hx
    · rename_i e
      have hm : s * t ≤ s * (n - 1) := Nat.mul_le_mul_left _ (by omega)
      simp only [Bool.or_eq_true, Bool.and_eq_true, decide_eq_true_eq] at hx
      generalize s * t = st at hm ⊢
      generalize s * (n - 1) = sn at hm hx
      omega
    · simp only [Bool.and_eq_true, decide_eq_true_eq] at hx
      omega
def mt_tx : ab_D := [((77, (7, 1, 1)), .inl (0, 400)), ((77, (12, 1, 1)), .inl (0, 400)), ((77, (13, 1, 1)), .inl (0, 400)), ((78, (1294, 1, 1)), .inl (0, 10)), ((78, (1300, 1, 10)), .inl (0, 400)), ((78, (1300, 1, 8010)), .inr (8, 0))]
def mt_k : ab_D := [((81, (85, 1, 1)), .inl (32, 32)), ((77, (7, 1, 1)), .inl (0, 400)), ((78, (1294, 1, 1)), .inl (0, 10)), ((77, (12, 1, 1)), .inl (0, 400)), ((77, (13, 1, 1)), .inl (0, 400)), ((78, (1300, 1, 8010)), .inr (8, 0))]
theorem iv_I.mk {h : mm_h} (hI : iv_I h) : ab_gd gk_G h mt_k := ab_subD_gd (by decide +kernel) hI.2
theorem gk_same {f g : Nat → Int32} (hf : gk f) (e : ∀ t, t < 8010 → g t = f t) : gk g := fun t ht => (hf t ht).on (e t (by omega)) (fun k hk => e _ (by omega))
theorem iv_I.gk {h : mm_h} (hI : iv_I h) : gk (rr_kt h) := by
  obtain ⟨f, g1, g2⟩ := ab_gd.gh hI.mk (.tail _ (.tail _ (.tail _ (.tail _ (.tail _ (.head _))))))
  exact gk_same (f := f) g1 (fun t ht => (g2 t ht).symm)
theorem iv_mtext {h h' : mm_h} {r : Option mm_v} (hI : iv_I h) (ht : rr_tx h r h') : iv_I h' ∧ ∃ v : Int32, r = some (mm_I v) := by
  obtain ⟨f, hv, e7, e94, e12, eg⟩ := ht
  have hg := eg hI.gk
  have n12 := ab_gd.num hI.mk (.tail _ (.tail _ (.tail _ (.head _))))
  have n13 := ab_gd.num hI.mk (.tail _ (.tail _ (.tail _ (.tail _ (.head _)))))
  have hF : ∀ c p, rr_txF c p → c < 101 := fun c p z => by unfold rr_txF rr_rdF at z; omega
  have hk : ab_gd gk_G h' (lw_X0.filter tx_ok) := f.gd hF (fun x hx t ht => tx_ok_ok (List.mem_filter.mp hx).2 t ht) (fun x hx => hI.2 x (List.mem_filter.mp hx).1)
  have hm : ab_gd gk_G h' mt_tx := by
    refine ab_gd.cons (ab_gx1 (by omega)) (ab_gd.cons (ab_gx1 ?_) (ab_gd.cons (ab_gx1 ?_) (ab_gd.cons (ab_gx1 e94) (ab_gd.cons (ab_gxn (fun t ht => ?_)) (ab_gd.cons (ab_gxg (rr_kt h') hg (fun t _ => rfl)) ab_gd.nil)))))
    · rcases e12 with e | e
      · rw [e.1]; exact n12
      · exact e.1
    · rcases e12 with e | e
      · rw [e.2]; exact n13
      · exact e.2
    · exact ⟨(hg t ht).1, (hg t ht).2.1⟩
  exact ⟨⟨f.sh hI.1, ab_subD_gd (X := mt_tx ++ lw_X0.filter tx_ok) (by decide +kernel) (hm.app hk)⟩, hv⟩
theorem jp_tx (c p : Nat) (z : jp c p = true) : ¬ rr_txF c p := by
  simp only [jp, jm, Bool.or_eq_true, Bool.and_eq_true, beq_iff_eq, decide_eq_true_eq] at z
  unfold rr_txF rr_rdF
  omega
def hc_mtext : mm_C := (189, (62, 1960, 0, 0), (fun us h => us = [mm_A (some 77)] ∧ iv_I h), fun _ h r h' => iv_I h' ∧ (∃ v : Int32, r = some (mm_I v)) ∧ jk jp h h')
theorem hk_mtext (l : Launch) (D : va_G) (st : Nat → Nat) : hh_Met l D st hc_mtext := by
  refine mm_sound (T := ck_T13) (cs := [hc_refuses, hc_good, hc_reads]) l ck_TSgood ck_okCl ck_okDt (M0 := ck_m189) rfl (by decide +kernel) ck_okT13 (List.forall_mem_cons.mpr ⟨hk_refuses l D st, List.forall_mem_cons.mpr ⟨hk_good l D st, List.forall_mem_cons.mpr ⟨hk_reads l D st, ck_nil⟩⟩⟩) ?_
  rintro us h - ⟨rfl, hI⟩
  have n85 := ab_gd.num hI.mk (.head _)
  have n7 := ab_gd.num hI.mk (.tail _ (.head _))
  have n94 := ab_gd.num hI.mk (.tail _ (.tail _ (.head _)))
  exact ⟨Nat.le_of_ble_eq_true rfl, hh_text h hI.A (by omega) n7.1 n7.2 n94.1 n94.2 (fun r h' a => ⟨Nat.le_of_eq a.1.1.symm, Nat.le_refl _, Nat.le_refl _, (iv_mtext hI a).1, (iv_mtext hI a).2, jk.rr a.1 jp_tx⟩)⟩
/-! image, back: what is known of kept, and of an image -/
def kp_X : ab_D := lw_X0.filter (fun x => x.1.1 == 78)
def kp_s (K : Nat) : ab_D := kp_X.map (fun x => ((79, (x.1.2.1 + K, x.1.2.2)), x.2))
def kp_n (x : (Nat × ab_P) × ck_F) : Bool := decide (x.1.2.1 + x.1.2.2.1 * (x.1.2.2.2 - 1) < 9310) && (match x.2 with
  | .inl _ => true
  | .inr q => decide (q.1 = 8))
theorem kp_all : kp_X.all (fun x => x.1.1 == 78 && kp_n x) = true := by decide +kernel
theorem kp_mv {h h' : mm_h} {c c' d : Nat} {x : (Nat × ab_P) × ck_F} {b b' : Nat} (hn : kp_n x = true) (he : ∀ p, p < 9310 → h'.2.2.1 c' (p + b') = h.2.2.1 c (p + b)) (hx : ab_gx gk_G h ((c, (x.1.2.1 + b, x.1.2.2)), x.2)) : ab_gx gk_G h' ((c', (x.1.2.1 + b', x.1.2.2)), x.2) := by
  obtain ⟨⟨i, p0, s, n⟩, F⟩ := x
  simp only [kp_n, Bool.and_eq_true, decide_eq_true_eq] at hn
  obtain ⟨hl, hF⟩ := hn
  have e : ∀ t, t < n → h'.2.2.1 c' (p0 + b' + s * t) = h.2.2.1 c (p0 + b + s * t) := fun t ht => by
    have hm : s * t ≤ s * (n - 1) := Nat.mul_le_mul_left _ (by omega)
    have := he (p0 + s * t) (by omega)
    rw [show p0 + b' + s * t = p0 + s * t + b' by omega, show p0 + b + s * t = p0 + s * t + b by omega]
    exact this
  refine ⟨fun t ht => ?_, fun g eg => ?_⟩
  · cases F with
    | inl z =>
      have h1 := hx.1 t ht
      show z.1 ≤ (h'.2.2.1 c' (p0 + b' + s * t)).toInt ∧ (h'.2.2.1 c' (p0 + b' + s * t)).toInt ≤ z.2
      rw [e t ht]
      exact h1
    | inr q =>
      obtain ⟨q1, q2⟩ := q
      have e8 : q1 = 8 := of_decide_eq_true hF
      subst e8
      trivial
  · obtain ⟨f, f1, f2⟩ := hx.2 g eg
    exact ⟨f, f1, fun t ht => by rw [f2 t ht]; exact (e t ht).symm⟩
theorem kp_in {h : mm_h} (hI : iv_I h) {x : (Nat × ab_P) × ck_F} (hx : x ∈ kp_X) : kp_n x = true ∧ ab_gx gk_G h ((78, (x.1.2.1 + 0, x.1.2.2)), x.2) := by
  have h1 := List.all_eq_true.mp kp_all x hx
  simp only [Bool.and_eq_true, beq_iff_eq] at h1
  have h2 := hI.2 x (List.mem_filter.mp hx).1
  refine ⟨h1.2, ?_⟩
  obtain ⟨⟨i, w⟩, F⟩ := x
  have e : i = 78 := h1.1
  subst e
  exact h2
theorem iv_cp {h : mm_h} (hI : iv_I h) (k : Nat) (hk : k < 2) : iv_I (rr_cp h (9310 * k) 9310) := by
  have f : rr_fr (fun c p => c = 79 ∧ 9310 * k ≤ p ∧ p < 9310 * k + 9310) h (rr_cp h (9310 * k) 9310) := ⟨rfl, rfl, rfl, fun c p hn => if_neg hn⟩
  have g : ab_fr [(79, (9310 * k, 1, 9310))] h (rr_cp h (9310 * k) 9310) := f.ab _ (fun c p q => ⟨_, .head _, q.1.symm, ab_mem1 q.2.1 q.2.2⟩) (fun w hw => by rw [List.mem_singleton.mp hw]; exact (by decide : 79 < 101))
  have d1 : ab_gd gk_G (rr_cp h (9310 * k) 9310) (kp_s (9310 * k)) := fun y hy => by
    obtain ⟨x, hx, rfl⟩ := List.mem_map.mp hy
    obtain ⟨hn, hg⟩ := kp_in hI hx
    refine kp_mv (c' := 79) (d := 0) hn (fun p hp => ?_) hg
    show (if 79 = 79 ∧ 9310 * k ≤ p + 9310 * k ∧ p + 9310 * k < 9310 * k + 9310 then h.2.2.1 78 (p + 9310 * k - 9310 * k) else _) = _
    rw [if_pos ⟨rfl, by omega, by omega⟩, show p + 9310 * k - 9310 * k = p + 0 by omega]
  have d2 := ab_keepD_ok g (iv_in hI.1) hI.2
  refine ⟨f.sh hI.1, ?_⟩
  have ck : ∀ k, k < 2 → ab_subD [] (kp_s (9310 * k) ++ ab_keepD [(79, (9310 * k, 1, 9310))] lw_X0, []) lw_X0 = true := by decide +kernel
  exact ab_subD_gd (ck k hk) (d1.app d2)
theorem iv_bk {h : mm_h} (hI : iv_I h) (k : Nat) (hk : k < 2) : iv_I (rr_bk h (9310 * k) 9310) := by
  have f : rr_fr (fun c p => c = 78 ∧ p < 9310) h (rr_bk h (9310 * k) 9310) := ⟨rfl, rfl, rfl, fun c p hn => if_neg hn⟩
  have g : ab_fr [(78, (0, 1, 9310))] h (rr_bk h (9310 * k) 9310) := f.ab _ (fun c p q => ⟨_, .head _, q.1.symm, ab_mem1 (Nat.zero_le _) (by have := q.2; omega)⟩)
  have ck0 : ∀ k, k < 2 → ab_subD [] (lw_X0, []) (kp_s (9310 * k)) = true := by decide +kernel
  have d0 := ab_subD_gd (ck0 k hk) hI.2
  have d1 : ab_gd gk_G (rr_bk h (9310 * k) 9310) kp_X := fun x hx => by
    obtain ⟨hn, -⟩ := kp_in hI hx
    have h1 := d0 _ (List.mem_map.mpr ⟨x, hx, rfl⟩)
    have h2 := kp_mv (c' := 78) (b' := 0) (d := 0) (h' := rr_bk h (9310 * k) 9310) hn (fun p hp => by
      show (if 78 = 78 ∧ p + 0 < 9310 then h.2.2.1 79 (9310 * k + (p + 0)) else _) = _
      rw [if_pos ⟨rfl, by omega⟩, show 9310 * k + (p + 0) = p + 9310 * k by omega]) h1
    have e78 := List.all_eq_true.mp kp_all x hx
    simp only [Bool.and_eq_true, beq_iff_eq] at e78
    obtain ⟨⟨i, w⟩, F⟩ := x
    have e : i = 78 := e78.1
    subst e
    exact h2
  have d2 := ab_keepD_ok g (iv_in hI.1) hI.2
  exact ⟨f.sh hI.1, ab_subD_gd (X := kp_X ++ ab_keepD [(78, (0, 1, 9310))] lw_X0) (by decide +kernel) (d1.app d2)⟩
theorem iv_77 {h : mm_h} (hI : iv_I h) (v : Int32) : iv_I (mm_si h 77 0 v) := hI.si 77 0 (-2147483648) 2147483647 v (by decide +kernel) (by decide) (ck_i32 v)
theorem rr_k01 {k : Int32} (h0 : 0 ≤ k.toInt) (h1 : k.toInt ≤ 1) : k.toInt.toNat < 2 := by omega
theorem iv_80 {h : mm_h} (hI : iv_I h) (k : Nat) (hk : k < 2) : iv_I (mm_si h 80 k (vp_nar .boolean (Int32.ofInt 1))) := by
  have ok : ∀ k, k < 2 → ab_okw lw_X0 80 k 1 1 = true := by decide +kernel
  exact hI.si 80 k 1 1 _ (ok k hk) (by decide) (by decide)
/-- what image, back do -/
def mi_P (k : Int32) (h : mm_h) (r : Option mm_v) (h' : mm_h) : Prop := (¬ (0 ≤ k.toInt ∧ k.toInt ≤ 1) ∧ r = some (mm_I (Int32.ofInt (-1))) ∧ h' = mm_si h 77 0 (Int32.ofInt (-1))) ∨ ((0 ≤ k.toInt ∧ k.toInt ≤ 1) ∧ r = some (mm_I (Int32.ofInt 0)) ∧ h' = mm_si (mm_si (rr_cp h (9310 * k.toInt.toNat) 9310) 80 k.toInt.toNat (vp_nar .boolean (Int32.ofInt 1))) 77 0 0)
def mb_P (k : Int32) (h : mm_h) (r : Option mm_v) (h' : mm_h) : Prop := (¬ (0 ≤ k.toInt ∧ k.toInt ≤ 1) ∧ r = some (mm_I (Int32.ofInt (-1))) ∧ h' = mm_si h 77 0 (Int32.ofInt (-1))) ∨ ((0 ≤ k.toInt ∧ k.toInt ≤ 1) ∧ h.2.2.1 80 k.toInt.toNat = 0 ∧ r = some (mm_I (Int32.ofInt (-2))) ∧ h' = mm_si h 77 0 (Int32.ofInt (-2))) ∨ ((0 ≤ k.toInt ∧ k.toInt ≤ 1) ∧ h.2.2.1 80 k.toInt.toNat ≠ 0 ∧ r = some (mm_I (Int32.ofInt 0)) ∧ h' = mm_si (rr_bk h (9310 * k.toInt.toNat) 9310) 77 0 0)
def hc_mimage : mm_C := (173, (1, 22, 0, 0), (fun us h => (∃ k : Int32, us = [mm_A (some 77), mm_I k]) ∧ iv_I h), fun us h r h' => iv_I h' ∧ (∃ v : Int32, r = some (mm_I v)) ∧ ∀ k : Int32, us = [mm_A (some 77), mm_I k] → mi_P k h r h')
theorem hk_mimage (l : Launch) (D : va_G) (st : Nat → Nat) : hh_Met l D st hc_mimage := by
  refine mm_sound (T := ck_T13) (cs := [hc_in, hc_refuses, hc_good]) l ck_TSgood ck_okCl ck_okDt (M0 := ck_m173) rfl (by decide +kernel) ck_okT13 (List.forall_mem_cons.mpr ⟨hk_in l D st, List.forall_mem_cons.mpr ⟨hk_refuses l D st, List.forall_mem_cons.mpr ⟨hk_good l D st, ck_nil⟩⟩⟩) ?_
  rintro us h - ⟨⟨k, rfl⟩, hI⟩
  exact ⟨Nat.le_of_ble_eq_true rfl, hh_image k h hI.A.1 (.head _) (.tail _ (.head _)) (.tail _ (.tail _ (.head _))) (by decide) (by decide) (fun hn => ⟨Nat.le_refl _, Nat.le_refl _, Nat.le_refl _, iv_77 hI _, ⟨_, rfl⟩, fun k' e => by cases e; exact Or.inl ⟨hn, rfl, rfl⟩⟩) (fun k0 k1 => ⟨Nat.le_refl _, Nat.le_refl _, Nat.le_refl _, iv_77 (iv_80 (iv_cp hI _ (rr_k01 k0 k1)) _ (rr_k01 k0 k1)) _, ⟨_, rfl⟩, fun k' e => by cases e; exact Or.inr ⟨⟨k0, k1⟩, rfl, rfl⟩⟩)⟩
def hc_mback : mm_C := (177, (1, 22, 0, 0), (fun us h => (∃ k : Int32, us = [mm_A (some 77), mm_I k]) ∧ iv_I h), fun us h r h' => iv_I h' ∧ (∃ v : Int32, r = some (mm_I v)) ∧ ∀ k : Int32, us = [mm_A (some 77), mm_I k] → mb_P k h r h')
theorem hk_mback (l : Launch) (D : va_G) (st : Nat → Nat) : hh_Met l D st hc_mback := by
  refine mm_sound (T := ck_T13) (cs := [hc_in, hc_refuses, hc_good]) l ck_TSgood ck_okCl ck_okDt (M0 := ck_m177) rfl (by decide +kernel) ck_okT13 (List.forall_mem_cons.mpr ⟨hk_in l D st, List.forall_mem_cons.mpr ⟨hk_refuses l D st, List.forall_mem_cons.mpr ⟨hk_good l D st, ck_nil⟩⟩⟩) ?_
  rintro us h - ⟨⟨k, rfl⟩, hI⟩
  exact ⟨Nat.le_of_ble_eq_true rfl, hh_back k h hI.A.1 (.head _) (.tail _ (.head _)) (.tail _ (.tail _ (.head _))) (by decide) (by decide) (fun hn => ⟨Nat.le_refl _, Nat.le_refl _, Nat.le_refl _, iv_77 hI _, ⟨_, rfl⟩, fun k' e => by cases e; exact Or.inl ⟨hn, rfl, rfl⟩⟩) (fun k0 k1 z => ⟨Nat.le_refl _, Nat.le_refl _, Nat.le_refl _, iv_77 hI _, ⟨_, rfl⟩, fun k' e => by cases e; exact Or.inr (Or.inl ⟨⟨k0, k1⟩, z, rfl, rfl⟩)⟩) (fun k0 k1 z => ⟨Nat.le_refl _, Nat.le_refl _, Nat.le_refl _, iv_77 (iv_bk hI _ (rr_k01 k0 k1)) _, ⟨_, rfl⟩, fun k' e => by cases e; exact Or.inr (Or.inr ⟨⟨k0, k1⟩, z, rfl, rfl⟩)⟩)⟩
