/-! what stays known; rows made anew -/
def mm_ext (h h' : mm_h) : Prop := h.1 ≤ h'.1 ∧ ∀ i, i < h.1 → h'.2.1 i = h.2.1 i ∧ (∀ k, h'.2.2.1 i k = h.2.2.1 i k) ∧ ∀ k, h'.2.2.2 i k = h.2.2.2 i k
theorem mm_ext.rf {h : mm_h} : mm_ext h h := ⟨Nat.le_refl _, fun _ _ => ⟨rfl, fun _ => rfl, fun _ => rfl⟩⟩
theorem mm_ext.tr {h h1 h2 : mm_h} (a : mm_ext h h1) (b : mm_ext h1 h2) : mm_ext h h2 := ⟨Nat.le_trans a.1 b.1, fun i hi => by
  obtain ⟨a1, a2, a3⟩ := a.2 i hi
  obtain ⟨b1, b2, b3⟩ := b.2 i (Nat.lt_of_lt_of_le hi a.1)
  exact ⟨b1.trans a1, fun k => (b2 k).trans (a2 k), fun k => (b3 k).trans (a3 k)⟩⟩
theorem mm_ext.le {h h' : mm_h} (a : mm_ext h h') : ab_le h h' := ⟨a.1, fun i hi => (a.2 i hi).1, fun i c hi _ _ _ => ⟨(a.2 i hi).2.2 0, (a.2 i hi).2.2 1⟩, fun i k _ hi => (a.2 i hi).2.1 k⟩
theorem mm_ext.gd {Gh : Nat → (Nat → Int32) → Prop} {X : ab_D} {h h' : mm_h} (a : mm_ext h h') (hin : ∀ x ∈ X, x.1.1 < h.1) (hX : ab_gd Gh h X) : ab_gd Gh h' X := fun x hx => (hX x hx).keep a.le (fun t _ => ⟨(a.2 _ (hin x hx)).2.1 _, (a.2 _ (hin x hx)).2.2 _⟩)
theorem mm_ext.sh {h h' : mm_h} (a : mm_ext h h') (hs : ab_sh ck_sh 101 h) : ab_sh ck_sh 101 h' := ⟨Nat.le_trans hs.1 a.1, fun z => absurd z (by decide), fun i hi => by rw [(a.2 i (Nat.lt_of_lt_of_le hi hs.1)).1]; exact hs.2.2 i hi⟩
theorem mm_ext.new {h : mm_h} {S : ck_Sh} : mm_ext h (mm_new h S) := ⟨Nat.le_succ _, fun i hi => ⟨if_neg (Nat.ne_of_lt hi), fun _ => if_neg (Nat.ne_of_lt hi), fun _ => if_neg (Nat.ne_of_lt hi)⟩⟩
theorem mm_ext.newc {h : mm_h} {S : ck_Sh} {xi : Nat → Int32} : mm_ext h (mm_newc h S xi) := ⟨Nat.le_succ _, fun i hi => ⟨if_neg (Nat.ne_of_lt hi), fun _ => if_neg (Nat.ne_of_lt hi), fun _ => if_neg (Nat.ne_of_lt hi)⟩⟩
theorem mm_ext.sr {h h' : mm_h} (a : mm_ext h h') {i k : Nat} {r : Option Nat} (hi : h.1 ≤ i) : mm_ext h (mm_sr h' i k r) := ⟨a.1, fun j hj => ⟨(a.2 j hj).1, (a.2 j hj).2.1, fun q => by
  show (if j = i ∧ q = k then r else h'.2.2.2 j q) = _
  rw [if_neg (fun z => by have := z.1; omega)]
  exact (a.2 j hj).2.2 q⟩⟩
theorem mm_ext.cp {h h' : mm_h} (a : mm_ext h h') {i j sp dp n : Nat} (hj : h.1 ≤ j) : mm_ext h (mm_cp h' i j sp dp n) := ⟨a.1, fun q hq => ⟨(a.2 q hq).1, fun k => by
  show (if q = j then _ else h'.2.2.1 q k) = _
  rw [if_neg (by omega)]
  exact (a.2 q hq).2.1 k, (a.2 q hq).2.2⟩⟩
/-- a number between lo and hi may be written there -/
def ab_okw (X : ab_D) (i k : Nat) (lo hi : Int) : Bool := X.all fun x => !(x.1.1 == i) || ab_sdis x.1.2 (k, 1, 1) || (match x.2 with
  | .inl z => decide (z.1 ≤ lo) && decide (hi ≤ z.2)
  | .inr _ => false)
theorem ab_le.si {h : mm_h} {i k : Nat} {v : Int32} (hi : i < 101) : ab_le h (mm_si h i k v) := ⟨Nat.le_refl _, fun _ _ => rfl, fun _ _ _ _ _ _ => ⟨rfl, rfl⟩, fun j q hj _ => by
  show (if j = i ∧ q = k then v else h.2.2.1 j q) = _
  rw [if_neg (fun z => by have := z.1; omega)]⟩
theorem ab_okw_ok {Gh : Nat → (Nat → Int32) → Prop} {X : ab_D} {h : mm_h} {i k : Nat} {lo hi : Int} {v : Int32} (hw : ab_okw X i k lo hi = true) (hi0 : i < 101) (hv : lo ≤ v.toInt ∧ v.toInt ≤ hi) (hX : ab_gd Gh h X) : ab_gd Gh (mm_si h i k v) X := fun x hx => by
  have h1 := List.all_eq_true.mp hw x hx
  simp only [Bool.or_eq_true] at h1
  have keep : (∀ t, t < x.1.2.2.2 → ¬ (x.1.1 = i ∧ x.1.2.1 + x.1.2.2.1 * t = k)) → ab_gx Gh (mm_si h i k v) x := fun hne => (hX x hx).keep (ab_le.si hi0) (fun t ht => ⟨by
    show (if x.1.1 = i ∧ x.1.2.1 + x.1.2.2.1 * t = k then v else h.2.2.1 x.1.1 (x.1.2.1 + x.1.2.2.1 * t)) = _
    rw [if_neg (hne t ht)], rfl⟩)
  rcases h1 with (h1 | h1) | h1
  · exact keep (fun t _ z => by simp [z.1] at h1)
  · exact keep (fun t ht z => ab_sdis_ok h1 ⟨t, ht, rfl⟩ ⟨0, Nat.one_pos, by rw [z.2]; rfl⟩)
  · obtain ⟨⟨c, w⟩, F⟩ := x
    cases F with
    | inr q => cases h1
    | inl z =>
      simp only [Bool.and_eq_true, decide_eq_true_eq] at h1
      refine ⟨fun t ht => ?_, fun g e => by cases e⟩
      have h2 := (hX _ hx).1 t ht
      show z.1 ≤ ((mm_si h i k v).2.2.1 c (w.1 + w.2.1 * t)).toInt ∧ ((mm_si h i k v).2.2.1 c (w.1 + w.2.1 * t)).toInt ≤ z.2
      rw [mm_si_i]
      split
      · omega
      · exact h2
/-- a text may be written there -/
def ab_okr (X : ab_D) (i k : Nat) (c : Nat) : Bool := X.all fun x => !(x.1.1 == i) || ab_sdis x.1.2 (k, 1, 1) || (match x.2 with
  | .inl _ => true
  | .inr q => decide (q = (3, c)))
theorem ab_okr_ok {Gh : Nat → (Nat → Int32) → Prop} {X : ab_D} {h : mm_h} {i k c : Nat} {r : Option Nat} {S : FieldType × Nat} (hw : ab_okr X i k c = true) (hs : h.2.1 i = .inr S) (hv : ab_kv h (3, c) (mm_A r)) (hX : ab_gd Gh h X) : ab_gd Gh (mm_sr h i k r) X := fun x hx => by
  have hle : ab_le h (mm_sr h i k r) := ⟨Nat.le_refl _, fun _ _ => rfl, fun j d hj hd _ _ => by
    have hne : j ≠ i := fun z => by rw [z, hs] at hd; cases hd
    exact ⟨if_neg (fun z => hne z.1), if_neg (fun z => hne z.1)⟩, fun _ _ _ _ => rfl⟩
  have h1 := List.all_eq_true.mp hw x hx
  simp only [Bool.or_eq_true] at h1
  have keep : (∀ t, t < x.1.2.2.2 → ¬ (x.1.1 = i ∧ x.1.2.1 + x.1.2.2.1 * t = k)) → ab_gx Gh (mm_sr h i k r) x := fun hne => (hX x hx).keep hle (fun t ht => ⟨rfl, by
    show (if x.1.1 = i ∧ x.1.2.1 + x.1.2.2.1 * t = k then r else h.2.2.2 x.1.1 (x.1.2.1 + x.1.2.2.1 * t)) = _
    rw [if_neg (hne t ht)]⟩)
  rcases h1 with (h1 | h1) | h1
  · exact keep (fun t _ z => by simp [z.1] at h1)
  · exact keep (fun t ht z => ab_sdis_ok h1 ⟨t, ht, rfl⟩ ⟨0, Nat.one_pos, by rw [z.2]; rfl⟩)
  · obtain ⟨⟨a, w⟩, F⟩ := x
    cases F with
    | inl z => exact ⟨(hX _ hx).1, fun g e => by cases e⟩
    | inr q =>
      have eq : q = (3, c) := of_decide_eq_true h1
      subst eq
      refine ⟨fun t ht => ?_, fun g e => by cases e⟩
      have h2 := (hX _ hx).1 t ht
      show ab_kv (mm_sr h i k r) (3, c) (mm_A (if a = i ∧ w.1 + w.2.1 * t = k then r else h.2.2.2 a (w.1 + w.2.1 * t)))
      split
      · exact hv.on hle
      · exact ab_kv.on hle h2
/-- a contract that leaves X known -/
def ab_lostD (wr : List (Nat × ab_P)) (X : ab_D) : ab_D := X.filter fun x => !(wr.all fun w => !(w.1 == x.1.1) || ab_sdis x.1.2 w.2)
def ab_stay (X : ab_D) (co : ab_C) : Bool := ab_subD [] (X, []) co.2.2.2.1 && co.2.2.2.2.2.1.all (fun o => decide (o.2.2.2 = 101) && ab_subD [] (o.2.2.1 ++ ab_keepD co.2.2.2.2.1 X, []) (ab_lostD co.2.2.2.2.1 X))
theorem ab_gd.app {Gh : Nat → (Nat → Int32) → Prop} {h : mm_h} {X Y : ab_D} (a : ab_gd Gh h X) (b : ab_gd Gh h Y) : ab_gd Gh h (X ++ Y) := fun x hx => (List.mem_append.mp hx).elim (a x) (b x)
theorem ab_subD_gd {Gh : Nat → (Nat → Int32) → Prop} {h : mm_h} {X Y : ab_D} (hs : ab_subD [] (X, []) Y = true) (hX : ab_gd Gh h X) : ab_gd Gh h Y := fun y hy => ab_has_ok (ν := fun _ => 0) (List.all_eq_true.mp hs y hy) (fun j q hq => by simp at hq) hX (fun q hq => by cases hq)
theorem ab_stay_pre {Gh : Nat → (Nat → Int32) → Prop} {h : mm_h} {X : ab_D} {co : ab_C} (hc : ab_stay X co = true) (hX : ab_gd Gh h X) : ab_gd Gh h co.2.2.2.1 := ab_subD_gd (Bool.and_eq_true _ _ ▸ hc).1 hX
theorem ab_stay_post {Gh : Nat → (Nat → Int32) → Prop} {h h' : mm_h} {us : List mm_v} {r : Option mm_v} {X : ab_D} {co : ab_C} (hc : ab_stay X co = true) (hin : ∀ x ∈ X, x.1.1 < h.1) (hX : ab_gd Gh h X) (hp : (ab_m Gh ck_sh co).2.2.2 us h r h') : ab_sh ck_sh 101 h' ∧ ab_gd Gh h' X ∧ ∃ o ∈ co.2.2.2.2.2.1, ab_rv h' o.1 r ∧ ck_iv o.2.1 (mm_ints us) := by
  obtain ⟨o, ho, h1, h2, h3, h4, h5⟩ := hp
  have hq := List.all_eq_true.mp (Bool.and_eq_true _ _ ▸ hc).2 o ho
  rw [Bool.and_eq_true] at hq
  rw [of_decide_eq_true hq.1] at h4
  have hk := ab_keepD_ok h5 hin hX
  have hl := ab_subD_gd hq.2 (h3.app hk)
  refine ⟨h4, fun y hy => ?_, o, ho, h1, h2⟩
  by_cases hw : (co.2.2.2.2.1.all fun w => !(w.1 == y.1.1) || ab_sdis y.1.2 w.2) = true
  · exact hk y (List.mem_filter.mpr ⟨hy, hw⟩)
  · rw [Bool.not_eq_true] at hw
    exact hl y (List.mem_filter.mpr ⟨hy, by rw [hw]; rfl⟩)
/-! Arrays.copyOf -/
theorem dd_Arrays_copyOf_0 : decode prog_22_method_123_code 0 = .ok (.iload_n 1, 1) := by decide +kernel
theorem dd_Arrays_copyOf_1 : decode prog_22_method_123_code 1 = .ok (.aload_n 0, 1) := by decide +kernel
theorem dd_Arrays_copyOf_2 : decode prog_22_method_123_code 2 = .ok (.arraylength, 1) := by decide +kernel
theorem dd_Arrays_copyOf_3 : decode prog_22_method_123_code 3 = .ok (.if_icmp .ne 11, 3) := by decide +kernel
theorem dd_Arrays_copyOf_6 : decode prog_22_method_123_code 6 = .ok (.aload_n 0, 1) := by decide +kernel
theorem dd_Arrays_copyOf_7 : decode prog_22_method_123_code 7 = .ok (.invokevirtual 316, 3) := by decide +kernel
theorem dd_Arrays_copyOf_10 : decode prog_22_method_123_code 10 = .ok (.checkcast 317, 3) := by decide +kernel
theorem dd_Arrays_copyOf_13 : decode prog_22_method_123_code 13 = .ok (.areturn, 1) := by decide +kernel
theorem dd_Arrays_copyOf_14 : decode prog_22_method_123_code 14 = .ok (.iload_n 1, 1) := by decide +kernel
theorem dd_Arrays_copyOf_15 : decode prog_22_method_123_code 15 = .ok (.newarray .int, 2) := by decide +kernel
theorem dd_Arrays_copyOf_17 : decode prog_22_method_123_code 17 = .ok (.astore_n 2, 1) := by decide +kernel
theorem dd_Arrays_copyOf_18 : decode prog_22_method_123_code 18 = .ok (.aload_n 0, 1) := by decide +kernel
theorem dd_Arrays_copyOf_19 : decode prog_22_method_123_code 19 = .ok (.iconst 0, 1) := by decide +kernel
theorem dd_Arrays_copyOf_20 : decode prog_22_method_123_code 20 = .ok (.aload_n 2, 1) := by decide +kernel
theorem dd_Arrays_copyOf_21 : decode prog_22_method_123_code 21 = .ok (.iconst 0, 1) := by decide +kernel
theorem dd_Arrays_copyOf_22 : decode prog_22_method_123_code 22 = .ok (.aload_n 0, 1) := by decide +kernel
theorem dd_Arrays_copyOf_23 : decode prog_22_method_123_code 23 = .ok (.arraylength, 1) := by decide +kernel
theorem dd_Arrays_copyOf_24 : decode prog_22_method_123_code 24 = .ok (.iload_n 1, 1) := by decide +kernel
theorem dd_Arrays_copyOf_25 : decode prog_22_method_123_code 25 = .ok (.invokestatic 304, 3) := by decide +kernel
theorem dd_Arrays_copyOf_28 : decode prog_22_method_123_code 28 = .ok (.invokestatic 150, 3) := by decide +kernel
theorem dd_Arrays_copyOf_31 : decode prog_22_method_123_code 31 = .ok (.aload_n 2, 1) := by decide +kernel
theorem dd_Arrays_copyOf_32 : decode prog_22_method_123_code 32 = .ok (.areturn, 1) := by decide +kernel

theorem ml15_316 : ck_T15.2.2.2.2.2.2.2.find? (fun q => q.1 == 316) = some (316, 14, 0) := by decide
theorem ml15_317 : ck_T15.2.2.2.2.2.2.2.find? (fun q => q.1 == 317) = some (317, 15, 0) := by decide
theorem ml15_304 : ck_T15.2.2.2.2.2.2.2.find? (fun q => q.1 == 304) = some (304, 8, 0) := by decide
theorem ml15_150 : ck_T15.2.2.2.2.2.2.2.find? (fun q => q.1 == 150) = some (150, 6, 0) := by decide
section CPY
variable {T : mm_T} {cs : List mm_C} {ini : Bool} {nL CM SM FM LM : Nat} {cc : ByteArray} {ret : Option FieldType} {Rt : Option mm_v → mm_h → Nat × Nat → Prop} {pc x n i : Nat} {L : List (Nat × mm_v)} {S : List mm_v} {h : mm_h} {k : Nat × Nat}
theorem mm_cln_W (hd : decode cc pc = .ok (.invokevirtual x, 3)) (hf : T.2.2.2.2.2.2.2.find? (fun q => q.1 == x) = some (x, 14, 0)) (hi : i < h.1) (hs : h.2.1 i = .inr (.int, n)) (hr : 1 ≤ FM ∧ mm_wd S + 14 ≤ LM) (h1 : k.1 + 1 ≤ CM) (h2 : k.2 + n ≤ SM) (K : mm_W vwCl ck_dt ck_mts T cs ini nL CM SM FM LM cc ret Rt (pc + 3, L, mm_A (some h.1) :: S, mm_newc h (.inr (.int, n)) (h.2.2.1 i), k.1 + 1, k.2 + n)) : mm_W vwCl ck_dt ck_mts T cs ini nL CM SM FM LM cc ret Rt (pc, L, mm_A (some i) :: S, h, k) := by
  refine mm_W.of ⟨_, hd, .inr (.inr (.inr (.inr (.inr (.inr (.inr (.inr (.inr (.inr (.inr (.inl ?_)))))))))))⟩
  exact ⟨_, n, hf, rfl, hi, hs, hr, h1, h2, K⟩
theorem mm_cst_W (hd : decode cc pc = .ok (.checkcast x, 3)) (hf : T.2.2.2.2.2.2.2.find? (fun q => q.1 == x) = some (x, 15, 0)) (hi : i < h.1) (hs : h.2.1 i = .inr (.int, n)) (K : mm_W vwCl ck_dt ck_mts T cs ini nL CM SM FM LM cc ret Rt (pc + 3, L, mm_A (some i) :: S, h, k)) : mm_W vwCl ck_dt ck_mts T cs ini nL CM SM FM LM cc ret Rt (pc, L, mm_A (some i) :: S, h, k) := by
  refine mm_W.of ⟨_, hd, .inr (.inr (.inr (.inr (.inr (.inr (.inr (.inr (.inr (.inr (.inr (.inl ?_)))))))))))⟩
  exact ⟨_, n, hf, rfl, hi, hs, K⟩
theorem mm_nwa_W {y : Int32} (hd : decode cc pc = .ok (.newarray .int, 2)) (hy : 0 ≤ y.toInt) (hy2 : y.toInt ≤ 1000) (ha : FieldType.int ∈ T.2.2.1) (h1 : k.1 + 1 ≤ CM) (h2 : k.2 + y.toInt.toNat ≤ SM) (K : mm_W vwCl ck_dt ck_mts T cs ini nL CM SM FM LM cc ret Rt (pc + 2, L, mm_A (some h.1) :: S, mm_new h (.inr (.int, y.toInt.toNat)), k.1 + 1, k.2 + y.toInt.toNat)) : mm_W vwCl ck_dt ck_mts T cs ini nL CM SM FM LM cc ret Rt (pc, L, mm_I y :: S, h, k) := by
  refine mm_W.of ⟨_, hd, .inr (.inr (.inr (.inr (.inr (.inr (.inr (.inr (.inl ?_))))))))⟩
  exact ⟨hy, Or.inl rfl, ha, by show y.toInt.toNat * 4 ≤ 536870912; omega, h1, h2, K⟩
theorem mm_acp_W {z d b : Int32} {j n1 : Nat} (hd : decode cc pc = .ok (.invokestatic x, 3)) (hf : T.2.2.2.2.2.2.2.find? (fun q => q.1 == x) = some (x, 6, 0)) (hi : i < h.1 ∧ j < h.1) (hs : h.2.1 i = .inr (.int, n)) (hs1 : h.2.1 j = .inr (.int, n1)) (hz : 0 ≤ z.toInt) (hb : 0 ≤ b.toInt) (hdd : 0 ≤ d.toInt) (e1 : b.toInt + z.toInt ≤ (n : Int)) (e2 : d.toInt + z.toInt ≤ (n1 : Int)) (h1 : 1 ≤ FM) (h2 : mm_wd S + (nativeFrameWords "java/lang/System" "arraycopy" 5 + 11) ≤ LM) (K : mm_W vwCl ck_dt ck_mts T cs ini nL CM SM FM LM cc ret Rt (pc + 3, L, S, mm_cp h i j b.toInt.toNat d.toInt.toNat z.toInt.toNat, k)) : mm_W vwCl ck_dt ck_mts T cs ini nL CM SM FM LM cc ret Rt (pc, L, mm_I z :: mm_I d :: mm_A (some j) :: mm_I b :: mm_A (some i) :: S, h, k) := by
  refine mm_W.of ⟨_, hd, .inr (.inr (.inr (.inr (.inr (.inr (.inr (.inr (.inr (.inr (.inl ?_))))))))))⟩
  exact ⟨_, n, n1, hf, rfl, hi.1, hi.2, hs, hs1, hz, hb, hdd, e1, e2, h1, h2, K⟩
theorem mm_pfr_W {q : ck_FL} {tl : List FieldType} {r : Option Nat} (hd : decode cc pc = .ok (.putfield x, 3)) (hq : ck_fld T.1 x = some q) (hi : i < h.1) (hs : h.2.1 i = .inl (q.2.1, n)) (ht : ck_dt[q.2.1]? = some tl) (ht2 : tl[q.2.2.1]? = some q.2.2.2.1) (hm : mm_ft q.2.2.2.1 = some true) (hfin : q.2.2.2.2 = true → ini = true) (K : mm_W vwCl ck_dt ck_mts T cs ini nL CM SM FM LM cc ret Rt (pc + 3, L, S, mm_sr h i q.2.2.1 r, k)) : mm_W vwCl ck_dt ck_mts T cs ini nL CM SM FM LM cc ret Rt (pc, L, mm_A r :: mm_A (some i) :: S, h, k) := by
  refine mm_W.of ⟨_, hd, .inr (.inr (.inr (.inr (.inr (.inl ?_)))))⟩
  exact ⟨q, n, tl, hq, hi, hs, ht, ht2, hm, hfin, K⟩
theorem mm_oin_W (hd : decode cc pc = .ok (.invokespecial x, 3)) (hf : T.2.2.2.2.2.2.2.find? (fun q => q.1 == x) = some (x, 7, 0)) (h1 : 1 ≤ FM) (h2 : mm_wd S + 12 ≤ LM) (K : mm_W vwCl ck_dt ck_mts T cs ini nL CM SM FM LM cc ret Rt (pc + 3, L, S, h, k)) : mm_W vwCl ck_dt ck_mts T cs ini nL CM SM FM LM cc ret Rt (pc, L, mm_A (some i) :: S, h, k) := by
  refine mm_W.of ⟨_, hd, .inr (.inr (.inr (.inr (.inr (.inr (.inr (.inr (.inr (.inr (.inl ?_))))))))))⟩
  exact ⟨_, hf, rfl, h1, h2, K⟩
theorem mm_new_W {c : Nat} {tl : List FieldType} (hd : decode cc pc = .ok (.new x, 3)) (hf : T.2.1.find? (fun q => q.1 == x) = some (x, c)) (ht : ck_dt[c]? = some tl) (ha : tl.all (fun t => (mm_ft t).isSome) = true) (h1 : k.1 + 1 ≤ CM) (h2 : k.2 + tl.length ≤ SM) (K : mm_W vwCl ck_dt ck_mts T cs ini nL CM SM FM LM cc ret Rt (pc + 3, L, mm_A (some h.1) :: S, mm_new h (.inl (c, tl.length)), k.1 + 1, k.2 + tl.length)) : mm_W vwCl ck_dt ck_mts T cs ini nL CM SM FM LM cc ret Rt (pc, L, S, h, k) := by
  refine mm_W.of ⟨_, hd, .inr (.inr (.inr (.inr (.inr (.inr (.inr (.inr (.inl ?_))))))))⟩
  exact ⟨_, tl, hf, ht, ha, h1, h2, K⟩
end CPY
/-- h' has one row more: the first m numbers of the row i -/
def mm_rowof (h : mm_h) (i m : Nat) (h' : mm_h) : Prop := mm_ext h h' ∧ h'.1 = h.1 + 1 ∧ h'.2.1 h.1 = .inr (.int, m) ∧ ∀ k, k < m → h'.2.2.1 h.1 k = h.2.2.1 i k
theorem hh_copyOf {Rt : Option mm_v → mm_h → Nat × Nat → Prop} (n i : Nat) (x : Int32) (h : mm_h) (hn : n ≤ 1000) (hi : i < h.1) (hs : h.2.1 i = .inr (.int, n)) (x0 : 0 ≤ x.toInt) (x1 : x.toInt ≤ n) (K : ∀ (h' : mm_h) (k : Nat × Nat), mm_rowof h i x.toInt.toNat h' → k.1 ≤ 1 → k.2 ≤ n → Rt (some (mm_A (some h.1))) h' k) :
    mm_W vwCl ck_dt ck_mts ck_T15 [] false 3 1 n (1) (60) prog_22_method_123_code (some (.array .int)) Rt (0, [(0, mm_A (some i)), (1, mm_I x)], [], h, 0, 0) := by
  have en := on_n hn
  refine mm_go_ok [7, 15] (N := fun z => mm_W vwCl ck_dt ck_mts ck_T15 [] false 3 1 n (1) (60) prog_22_method_123_code (some (.array .int)) Rt z) (fun z h => h) 8 _ ?_
  simp only [mm_nn2, mm_one, mm_grp, mm_a, mm_b, mm_c, mm_bop, mm_d, mm_e, mm_ld, mm_sw, mm_k, mm_rt, mm_get, mm_put, mm_put2, mm_two, mm_rf, ck_tg, ck_chold, ck_cneg, List.elem_cons, List.elem_nil, List.find?_cons, List.filter_cons, List.filter_nil, Option.map_some, Nat.reduceBEq, Nat.reduceAdd, Bool.or_false, Bool.false_or, Bool.or_true, Bool.true_or, beq_self_eq_true, Bool.not_false, Bool.not_true, Bool.and_true, Bool.true_and, Bool.and_false, Bool.false_and, Bool.false_eq_true, ↓reduceIte, Fin.isValue, mm_f0, mm_f1, mm_f2, mm_f3, Nat.zero_mod, Nat.reduceMod, Option.some.injEq, Sum.inl.injEq, Sum.inr.injEq, exists_eq_left', List.find?_nil, List.length_cons, List.length_nil, true_and, and_true, Nat.reduceLT, Nat.reduceEqDiff, Int.reduceLE, Int.reduceAdd, Int.reduceToNat, Int.cast_ofNat_Int, Int.reduceNeg, Nat.reduceBeqDiff, Nat.zero_add, Prod.mk.injEq, mm_si_n, mm_si_s, mm_si_r, Option.toList_some, Option.toList_none, List.cons_append, List.nil_append, exists_eq', exists_eq, reduceCtorEq, false_and, and_false, false_or, or_false, exists_false, eq_self, and_self, mm_si_i, Int.reduceLT, mm_go_s dd_Arrays_copyOf_0, mm_go_s dd_Arrays_copyOf_1, mm_go_s dd_Arrays_copyOf_2, mm_go_s dd_Arrays_copyOf_3, mm_go_s dd_Arrays_copyOf_6, mm_go_s dd_Arrays_copyOf_7, mm_go_s dd_Arrays_copyOf_10, mm_go_s dd_Arrays_copyOf_13, mm_go_s dd_Arrays_copyOf_14, mm_go_s dd_Arrays_copyOf_15, mm_go_s dd_Arrays_copyOf_17, mm_go_s dd_Arrays_copyOf_18, mm_go_s dd_Arrays_copyOf_19, mm_go_s dd_Arrays_copyOf_20, mm_go_s dd_Arrays_copyOf_21, mm_go_s dd_Arrays_copyOf_22, mm_go_s dd_Arrays_copyOf_23, mm_go_s dd_Arrays_copyOf_24, mm_go_s dd_Arrays_copyOf_25, mm_go_s dd_Arrays_copyOf_28, mm_go_s dd_Arrays_copyOf_31, mm_go_s dd_Arrays_copyOf_32, kt_0, ml15_304, ml15_150, hi, hs]
  rw [en]
  refine ⟨fun c => ?_, fun c => ?_⟩
  · refine mm_nwa_W dd_Arrays_copyOf_15 x0 (by omega) (by decide) (Nat.le_refl _) (by show 0 + x.toInt.toNat ≤ n; omega) ?_
    have ext : mm_ext h (mm_new h (.inr (.int, x.toInt.toNat))) := mm_ext.new
    have s1 : (mm_new h (.inr (.int, x.toInt.toNat))).2.1 h.1 = .inr (.int, x.toInt.toNat) := if_pos rfl
    have c1 : (mm_new h (.inr (.int, x.toInt.toNat))).1 = h.1 + 1 := rfl
    generalize mm_new h (.inr (.int, x.toInt.toNat)) = h1 at ext s1 c1 ⊢
    obtain ⟨a1, a2, a3⟩ := ext.2 i hi
    have hi1 : i < h1.1 := by omega
    refine mm_go_ok [28] (N := fun z => mm_W vwCl ck_dt ck_mts ck_T15 [] false 3 1 n (1) (60) prog_22_method_123_code (some (.array .int)) Rt z) (fun z h => h) 12 _ ?_
    simp only [mm_nn2, mm_one, mm_grp, mm_a, mm_b, mm_c, mm_bop, mm_d, mm_e, mm_ld, mm_sw, mm_k, mm_rt, mm_get, mm_put, mm_put2, mm_two, mm_rf, ck_tg, ck_chold, ck_cneg, List.elem_cons, List.elem_nil, List.find?_cons, List.filter_cons, List.filter_nil, Option.map_some, Nat.reduceBEq, Nat.reduceAdd, Bool.or_false, Bool.false_or, Bool.or_true, Bool.true_or, beq_self_eq_true, Bool.not_false, Bool.not_true, Bool.and_true, Bool.true_and, Bool.and_false, Bool.false_and, Bool.false_eq_true, ↓reduceIte, Fin.isValue, mm_f0, mm_f1, mm_f2, mm_f3, Nat.zero_mod, Nat.reduceMod, Option.some.injEq, Sum.inl.injEq, Sum.inr.injEq, exists_eq_left', List.find?_nil, List.length_cons, List.length_nil, true_and, and_true, Nat.reduceLT, Nat.reduceEqDiff, Int.reduceLE, Int.reduceAdd, Int.reduceToNat, Int.cast_ofNat_Int, Int.reduceNeg, Nat.reduceBeqDiff, Nat.zero_add, Prod.mk.injEq, mm_si_n, mm_si_s, mm_si_r, Option.toList_some, Option.toList_none, List.cons_append, List.nil_append, exists_eq', exists_eq, reduceCtorEq, false_and, and_false, false_or, or_false, exists_false, eq_self, and_self, mm_si_i, Int.reduceLT, mm_go_s dd_Arrays_copyOf_0, mm_go_s dd_Arrays_copyOf_1, mm_go_s dd_Arrays_copyOf_2, mm_go_s dd_Arrays_copyOf_3, mm_go_s dd_Arrays_copyOf_6, mm_go_s dd_Arrays_copyOf_7, mm_go_s dd_Arrays_copyOf_10, mm_go_s dd_Arrays_copyOf_13, mm_go_s dd_Arrays_copyOf_14, mm_go_s dd_Arrays_copyOf_15, mm_go_s dd_Arrays_copyOf_17, mm_go_s dd_Arrays_copyOf_18, mm_go_s dd_Arrays_copyOf_19, mm_go_s dd_Arrays_copyOf_20, mm_go_s dd_Arrays_copyOf_21, mm_go_s dd_Arrays_copyOf_22, mm_go_s dd_Arrays_copyOf_23, mm_go_s dd_Arrays_copyOf_24, mm_go_s dd_Arrays_copyOf_25, mm_go_s dd_Arrays_copyOf_28, mm_go_s dd_Arrays_copyOf_31, mm_go_s dd_Arrays_copyOf_32, kt_0, ml15_304, ml15_150, hi1, a1.trans hs, mm_x, Nat.reduceEqDiff, true_or, or_true, true_and, Nat.le_refl]
    refine ⟨Nat.le_of_ble_eq_true rfl, by omega, ?_⟩
    have lt : x < Int32.ofNat n := Int32.lt_iff_toInt_lt.mpr (by rw [en]; omega)
    rw [if_pos lt]
    refine mm_acp_W dd_Arrays_copyOf_28 ml15_150 ⟨hi1, by omega⟩ (a1.trans hs) s1 x0 (by decide) (by decide) (by rw [kt_0]; omega) (by rw [kt_0]; omega) (by decide) (Nat.le_of_ble_eq_true rfl) ?_
    refine mm_go_ok [] (N := fun z => mm_W vwCl ck_dt ck_mts ck_T15 [] false 3 1 n (1) (60) prog_22_method_123_code (some (.array .int)) Rt z) (fun z h => h) 4 _ ?_
    simp only [mm_nn2, mm_one, mm_grp, mm_a, mm_b, mm_c, mm_bop, mm_d, mm_e, mm_ld, mm_sw, mm_k, mm_rt, mm_get, mm_put, mm_put2, mm_two, mm_rf, ck_tg, ck_chold, ck_cneg, List.elem_cons, List.elem_nil, List.find?_cons, List.filter_cons, List.filter_nil, Option.map_some, Nat.reduceBEq, Nat.reduceAdd, Bool.or_false, Bool.false_or, Bool.or_true, Bool.true_or, beq_self_eq_true, Bool.not_false, Bool.not_true, Bool.and_true, Bool.true_and, Bool.and_false, Bool.false_and, Bool.false_eq_true, ↓reduceIte, Fin.isValue, mm_f0, mm_f1, mm_f2, mm_f3, Nat.zero_mod, Nat.reduceMod, Option.some.injEq, Sum.inl.injEq, Sum.inr.injEq, exists_eq_left', List.find?_nil, List.length_cons, List.length_nil, true_and, and_true, Nat.reduceLT, Nat.reduceEqDiff, Int.reduceLE, Int.reduceAdd, Int.reduceToNat, Int.cast_ofNat_Int, Int.reduceNeg, Nat.reduceBeqDiff, Nat.zero_add, Prod.mk.injEq, mm_si_n, mm_si_s, mm_si_r, Option.toList_some, Option.toList_none, List.cons_append, List.nil_append, exists_eq', exists_eq, reduceCtorEq, false_and, and_false, false_or, or_false, exists_false, eq_self, and_self, mm_si_i, Int.reduceLT, mm_go_s dd_Arrays_copyOf_0, mm_go_s dd_Arrays_copyOf_1, mm_go_s dd_Arrays_copyOf_2, mm_go_s dd_Arrays_copyOf_3, mm_go_s dd_Arrays_copyOf_6, mm_go_s dd_Arrays_copyOf_7, mm_go_s dd_Arrays_copyOf_10, mm_go_s dd_Arrays_copyOf_13, mm_go_s dd_Arrays_copyOf_14, mm_go_s dd_Arrays_copyOf_15, mm_go_s dd_Arrays_copyOf_17, mm_go_s dd_Arrays_copyOf_18, mm_go_s dd_Arrays_copyOf_19, mm_go_s dd_Arrays_copyOf_20, mm_go_s dd_Arrays_copyOf_21, mm_go_s dd_Arrays_copyOf_22, mm_go_s dd_Arrays_copyOf_23, mm_go_s dd_Arrays_copyOf_24, mm_go_s dd_Arrays_copyOf_25, mm_go_s dd_Arrays_copyOf_28, mm_go_s dd_Arrays_copyOf_31, mm_go_s dd_Arrays_copyOf_32, kt_0, ml15_304, ml15_150]
    refine ⟨⟨_, rfl⟩, K _ _ ⟨ext.cp (Nat.le_refl _), c1, s1, fun k hk => ?_⟩ (Nat.le_refl _) (by show x.toInt.toNat ≤ n; omega)⟩
    show (if h.1 = h.1 then va_cpy (h1.2.2.1 i) (h1.2.2.1 h.1) _ _ _ k else _) = _
    rw [if_pos rfl]
    unfold va_cpy
    rw [if_pos ⟨by omega, by omega⟩, a2, show 0 + (k - 0) = k by omega]
  · refine mm_cln_W dd_Arrays_copyOf_7 ml15_316 hi hs ⟨by decide, by decide⟩ (Nat.le_refl _) (by show 0 + n ≤ n; omega) ?_
    have ext : mm_ext h (mm_newc h (.inr (.int, n)) (h.2.2.1 i)) := mm_ext.newc
    have s1 : (mm_newc h (.inr (.int, n)) (h.2.2.1 i)).2.1 h.1 = .inr (.int, n) := if_pos rfl
    have c1 : (mm_newc h (.inr (.int, n)) (h.2.2.1 i)).1 = h.1 + 1 := rfl
    have v1 : ∀ k, (mm_newc h (.inr (.int, n)) (h.2.2.1 i)).2.2.1 h.1 k = h.2.2.1 i k := fun k => if_pos rfl
    generalize mm_newc h (.inr (.int, n)) (h.2.2.1 i) = h1 at ext s1 c1 v1 ⊢
    refine mm_cst_W dd_Arrays_copyOf_10 ml15_317 (by omega) s1 ?_
    refine mm_go_ok [] (N := fun z => mm_W vwCl ck_dt ck_mts ck_T15 [] false 3 1 n (1) (60) prog_22_method_123_code (some (.array .int)) Rt z) (fun z h => h) 4 _ ?_
    simp only [mm_nn2, mm_one, mm_grp, mm_a, mm_b, mm_c, mm_bop, mm_d, mm_e, mm_ld, mm_sw, mm_k, mm_rt, mm_get, mm_put, mm_put2, mm_two, mm_rf, ck_tg, ck_chold, ck_cneg, List.elem_cons, List.elem_nil, List.find?_cons, List.filter_cons, List.filter_nil, Option.map_some, Nat.reduceBEq, Nat.reduceAdd, Bool.or_false, Bool.false_or, Bool.or_true, Bool.true_or, beq_self_eq_true, Bool.not_false, Bool.not_true, Bool.and_true, Bool.true_and, Bool.and_false, Bool.false_and, Bool.false_eq_true, ↓reduceIte, Fin.isValue, mm_f0, mm_f1, mm_f2, mm_f3, Nat.zero_mod, Nat.reduceMod, Option.some.injEq, Sum.inl.injEq, Sum.inr.injEq, exists_eq_left', List.find?_nil, List.length_cons, List.length_nil, true_and, and_true, Nat.reduceLT, Nat.reduceEqDiff, Int.reduceLE, Int.reduceAdd, Int.reduceToNat, Int.cast_ofNat_Int, Int.reduceNeg, Nat.reduceBeqDiff, Nat.zero_add, Prod.mk.injEq, mm_si_n, mm_si_s, mm_si_r, Option.toList_some, Option.toList_none, List.cons_append, List.nil_append, exists_eq', exists_eq, reduceCtorEq, false_and, and_false, false_or, or_false, exists_false, eq_self, and_self, mm_si_i, Int.reduceLT, mm_go_s dd_Arrays_copyOf_0, mm_go_s dd_Arrays_copyOf_1, mm_go_s dd_Arrays_copyOf_2, mm_go_s dd_Arrays_copyOf_3, mm_go_s dd_Arrays_copyOf_6, mm_go_s dd_Arrays_copyOf_7, mm_go_s dd_Arrays_copyOf_10, mm_go_s dd_Arrays_copyOf_13, mm_go_s dd_Arrays_copyOf_14, mm_go_s dd_Arrays_copyOf_15, mm_go_s dd_Arrays_copyOf_17, mm_go_s dd_Arrays_copyOf_18, mm_go_s dd_Arrays_copyOf_19, mm_go_s dd_Arrays_copyOf_20, mm_go_s dd_Arrays_copyOf_21, mm_go_s dd_Arrays_copyOf_22, mm_go_s dd_Arrays_copyOf_23, mm_go_s dd_Arrays_copyOf_24, mm_go_s dd_Arrays_copyOf_25, mm_go_s dd_Arrays_copyOf_28, mm_go_s dd_Arrays_copyOf_31, mm_go_s dd_Arrays_copyOf_32, kt_0, ml15_304, ml15_150]
    have ex : x.toInt.toNat = n := by omega
    exact ⟨⟨_, rfl⟩, K _ _ ⟨ext, c1, by rw [ex]; exact s1, fun k _ => v1 k⟩ (Nat.le_refl _) (Nat.le_refl _)⟩
def hc_copyOf (n : Nat) : mm_C := (57, (1, 60, 1, n), (fun us h => ∃ i, ∃ x : Int32, us = [mm_A (some i), mm_I x] ∧ n ≤ 1000 ∧ i < h.1 ∧ h.2.1 i = .inr (.int, n) ∧ 0 ≤ x.toInt ∧ x.toInt ≤ n), fun us h r h' => r = some (mm_A (some h.1)) ∧ ∀ i, ∀ x : Int32, us = [mm_A (some i), mm_I x] → mm_rowof h i x.toInt.toNat h')
theorem hk_copyOf (l : Launch) (D : va_G) (st : Nat → Nat) (n : Nat) : hh_Met l D st (hc_copyOf n) := by
  refine mm_sound (T := ck_T15) (cs := []) l ck_TSgood ck_okCl ck_okDt (M0 := ck_m57) rfl (by decide +kernel) ck_okT15 ck_nil ?_
  rintro us h - ⟨i, x, rfl, hn, hi, hs, x0, x1⟩
  exact ⟨Nat.le_of_ble_eq_true rfl, hh_copyOf n i x h hn hi hs x0 x1 (fun h' k hr k1 k2 => ⟨hr.1.1, k1, k2, rfl, fun i' x' e => by cases e; exact hr⟩)⟩
/-! Text.<init> -/
theorem dd_Text_init_0 : decode prog_11_method_1_code 0 = .ok (.aload_n 0, 1) := by decide +kernel
theorem dd_Text_init_1 : decode prog_11_method_1_code 1 = .ok (.invokespecial 3, 3) := by decide +kernel
theorem dd_Text_init_4 : decode prog_11_method_1_code 4 = .ok (.aload_n 0, 1) := by decide +kernel
theorem dd_Text_init_5 : decode prog_11_method_1_code 5 = .ok (.aload_n 1, 1) := by decide +kernel
theorem dd_Text_init_6 : decode prog_11_method_1_code 6 = .ok (.putfield 9, 3) := by decide +kernel
theorem dd_Text_init_9 : decode prog_11_method_1_code 9 = .ok (.aload_n 0, 1) := by decide +kernel
theorem dd_Text_init_10 : decode prog_11_method_1_code 10 = .ok (.aload_n 2, 1) := by decide +kernel
theorem dd_Text_init_11 : decode prog_11_method_1_code 11 = .ok (.putfield 15, 3) := by decide +kernel
theorem dd_Text_init_14 : decode prog_11_method_1_code 14 = .ok (.return_, 1) := by decide +kernel

theorem hh_textInit {Rt : Option mm_v → mm_h → Nat × Nat → Prop} (i a b : Nat) (h : mm_h) (hi : i < h.1) (hs : h.2.1 i = .inl (9, 2)) (K : Rt none (mm_sr (mm_sr h i 0 (some a)) i 1 (some b)) (0, 0)) :
    mm_W vwCl ck_dt ck_mts ck_T10 [] true 3 0 0 (1) (30) prog_11_method_1_code none Rt (0, [(0, mm_A (some i)), (1, mm_A (some a)), (2, mm_A (some b))], [], h, 0, 0) := by
  refine mm_go_ok [1] (N := fun z => mm_W vwCl ck_dt ck_mts ck_T10 [] true 3 0 0 (1) (30) prog_11_method_1_code none Rt z) (fun z h => h) 2 _ ?_
  simp only [mm_nn2, mm_one, mm_grp, mm_a, mm_b, mm_c, mm_bop, mm_d, mm_e, mm_ld, mm_sw, mm_k, mm_rt, mm_get, mm_put, mm_put2, mm_two, mm_rf, ck_tg, ck_chold, ck_cneg, List.elem_cons, List.elem_nil, List.find?_cons, List.filter_cons, List.filter_nil, Option.map_some, Nat.reduceBEq, Nat.reduceAdd, Bool.or_false, Bool.false_or, Bool.or_true, Bool.true_or, beq_self_eq_true, Bool.not_false, Bool.not_true, Bool.and_true, Bool.true_and, Bool.and_false, Bool.false_and, Bool.false_eq_true, ↓reduceIte, Fin.isValue, mm_f0, mm_f1, mm_f2, mm_f3, Nat.zero_mod, Nat.reduceMod, Option.some.injEq, Sum.inl.injEq, Sum.inr.injEq, exists_eq_left', List.find?_nil, List.length_cons, List.length_nil, true_and, and_true, Nat.reduceLT, Nat.reduceEqDiff, Int.reduceLE, Int.reduceAdd, Int.reduceToNat, Int.cast_ofNat_Int, Int.reduceNeg, Nat.reduceBeqDiff, Nat.zero_add, Prod.mk.injEq, mm_si_n, mm_si_s, mm_si_r, Option.toList_some, Option.toList_none, List.cons_append, List.nil_append, exists_eq', exists_eq, reduceCtorEq, false_and, and_false, false_or, or_false, exists_false, eq_self, and_self, mm_si_i, Int.reduceLT, mm_go_s dd_Text_init_0, mm_go_s dd_Text_init_4, mm_go_s dd_Text_init_5, mm_go_s dd_Text_init_9, mm_go_s dd_Text_init_10, mm_go_s dd_Text_init_14]
  refine mm_oin_W dd_Text_init_1 ml10_3 (by decide) (by decide) ?_
  refine mm_go_ok [6] (N := fun z => mm_W vwCl ck_dt ck_mts ck_T10 [] true 3 0 0 (1) (30) prog_11_method_1_code none Rt z) (fun z h => h) 4 _ ?_
  simp only [mm_nn2, mm_one, mm_grp, mm_a, mm_b, mm_c, mm_bop, mm_d, mm_e, mm_ld, mm_sw, mm_k, mm_rt, mm_get, mm_put, mm_put2, mm_two, mm_rf, ck_tg, ck_chold, ck_cneg, List.elem_cons, List.elem_nil, List.find?_cons, List.filter_cons, List.filter_nil, Option.map_some, Nat.reduceBEq, Nat.reduceAdd, Bool.or_false, Bool.false_or, Bool.or_true, Bool.true_or, beq_self_eq_true, Bool.not_false, Bool.not_true, Bool.and_true, Bool.true_and, Bool.and_false, Bool.false_and, Bool.false_eq_true, ↓reduceIte, Fin.isValue, mm_f0, mm_f1, mm_f2, mm_f3, Nat.zero_mod, Nat.reduceMod, Option.some.injEq, Sum.inl.injEq, Sum.inr.injEq, exists_eq_left', List.find?_nil, List.length_cons, List.length_nil, true_and, and_true, Nat.reduceLT, Nat.reduceEqDiff, Int.reduceLE, Int.reduceAdd, Int.reduceToNat, Int.cast_ofNat_Int, Int.reduceNeg, Nat.reduceBeqDiff, Nat.zero_add, Prod.mk.injEq, mm_si_n, mm_si_s, mm_si_r, Option.toList_some, Option.toList_none, List.cons_append, List.nil_append, exists_eq', exists_eq, reduceCtorEq, false_and, and_false, false_or, or_false, exists_false, eq_self, and_self, mm_si_i, Int.reduceLT, mm_go_s dd_Text_init_0, mm_go_s dd_Text_init_4, mm_go_s dd_Text_init_5, mm_go_s dd_Text_init_9, mm_go_s dd_Text_init_10, mm_go_s dd_Text_init_14]
  refine mm_pfr_W (n := 2) (q := (9, 9, 0, .array .int, true)) (tl := ck_tl9) dd_Text_init_6 rfl hi hs rfl rfl rfl (fun _ => rfl) ?_
  refine mm_go_ok [11] (N := fun z => mm_W vwCl ck_dt ck_mts ck_T10 [] true 3 0 0 (1) (30) prog_11_method_1_code none Rt z) (fun z h => h) 4 _ ?_
  simp only [mm_nn2, mm_one, mm_grp, mm_a, mm_b, mm_c, mm_bop, mm_d, mm_e, mm_ld, mm_sw, mm_k, mm_rt, mm_get, mm_put, mm_put2, mm_two, mm_rf, ck_tg, ck_chold, ck_cneg, List.elem_cons, List.elem_nil, List.find?_cons, List.filter_cons, List.filter_nil, Option.map_some, Nat.reduceBEq, Nat.reduceAdd, Bool.or_false, Bool.false_or, Bool.or_true, Bool.true_or, beq_self_eq_true, Bool.not_false, Bool.not_true, Bool.and_true, Bool.true_and, Bool.and_false, Bool.false_and, Bool.false_eq_true, ↓reduceIte, Fin.isValue, mm_f0, mm_f1, mm_f2, mm_f3, Nat.zero_mod, Nat.reduceMod, Option.some.injEq, Sum.inl.injEq, Sum.inr.injEq, exists_eq_left', List.find?_nil, List.length_cons, List.length_nil, true_and, and_true, Nat.reduceLT, Nat.reduceEqDiff, Int.reduceLE, Int.reduceAdd, Int.reduceToNat, Int.cast_ofNat_Int, Int.reduceNeg, Nat.reduceBeqDiff, Nat.zero_add, Prod.mk.injEq, mm_si_n, mm_si_s, mm_si_r, Option.toList_some, Option.toList_none, List.cons_append, List.nil_append, exists_eq', exists_eq, reduceCtorEq, false_and, and_false, false_or, or_false, exists_false, eq_self, and_self, mm_si_i, Int.reduceLT, mm_go_s dd_Text_init_0, mm_go_s dd_Text_init_4, mm_go_s dd_Text_init_5, mm_go_s dd_Text_init_9, mm_go_s dd_Text_init_10, mm_go_s dd_Text_init_14]
  refine mm_pfr_W (n := 2) (q := (15, 9, 1, .array .int, true)) (tl := ck_tl9) dd_Text_init_11 rfl hi hs rfl rfl rfl (fun _ => rfl) ?_
  refine mm_go_ok [] (N := fun z => mm_W vwCl ck_dt ck_mts ck_T10 [] true 3 0 0 (1) (30) prog_11_method_1_code none Rt z) (fun z h => h) 2 _ ?_
  simp only [mm_nn2, mm_one, mm_grp, mm_a, mm_b, mm_c, mm_bop, mm_d, mm_e, mm_ld, mm_sw, mm_k, mm_rt, mm_get, mm_put, mm_put2, mm_two, mm_rf, ck_tg, ck_chold, ck_cneg, List.elem_cons, List.elem_nil, List.find?_cons, List.filter_cons, List.filter_nil, Option.map_some, Nat.reduceBEq, Nat.reduceAdd, Bool.or_false, Bool.false_or, Bool.or_true, Bool.true_or, beq_self_eq_true, Bool.not_false, Bool.not_true, Bool.and_true, Bool.true_and, Bool.and_false, Bool.false_and, Bool.false_eq_true, ↓reduceIte, Fin.isValue, mm_f0, mm_f1, mm_f2, mm_f3, Nat.zero_mod, Nat.reduceMod, Option.some.injEq, Sum.inl.injEq, Sum.inr.injEq, exists_eq_left', List.find?_nil, List.length_cons, List.length_nil, true_and, and_true, Nat.reduceLT, Nat.reduceEqDiff, Int.reduceLE, Int.reduceAdd, Int.reduceToNat, Int.cast_ofNat_Int, Int.reduceNeg, Nat.reduceBeqDiff, Nat.zero_add, Prod.mk.injEq, mm_si_n, mm_si_s, mm_si_r, Option.toList_some, Option.toList_none, List.cons_append, List.nil_append, exists_eq', exists_eq, reduceCtorEq, false_and, and_false, false_or, or_false, exists_false, eq_self, and_self, mm_si_i, Int.reduceLT, mm_go_s dd_Text_init_0, mm_go_s dd_Text_init_4, mm_go_s dd_Text_init_5, mm_go_s dd_Text_init_9, mm_go_s dd_Text_init_10, mm_go_s dd_Text_init_14]
  exact K
def hc_textInit : mm_C := (2, (1, 30, 0, 0), (fun us h => ∃ i a b, us = [mm_A (some i), mm_A (some a), mm_A (some b)] ∧ i < h.1 ∧ h.2.1 i = .inl (9, 2)), fun us h r h' => r = none ∧ ∀ i a b, us = [mm_A (some i), mm_A (some a), mm_A (some b)] → h' = mm_sr (mm_sr h i 0 (some a)) i 1 (some b))
theorem hk_textInit (l : Launch) (D : va_G) (st : Nat → Nat) : hh_Met l D st hc_textInit := by
  refine mm_sound (T := ck_T10) (cs := []) l ck_TSgood ck_okCl ck_okDt (M0 := ck_m2) rfl (by decide +kernel) ck_okT10 ck_nil ?_
  rintro us h - ⟨i, a, b, rfl, hi, hs⟩
  exact ⟨Nat.le_of_ble_eq_true rfl, hh_textInit i a b h hi hs ⟨Nat.le_refl _, Nat.le_refl _, Nat.le_refl _, rfl, fun i' a' b' e => by cases e; rfl⟩⟩
