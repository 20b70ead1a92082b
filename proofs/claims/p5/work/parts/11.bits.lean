/-! BITS OF BOUNDED NUMBERS, AND WHAT A COMPARISON TELLS -/
theorem ck_nat {x : Int32} (h : 0 ≤ x.toInt) : x.toInt = (x.toBitVec.toNat : Int) := by
  have e : x.toBitVec.toInt = x.toInt := Int32.toInt_toBitVec x
  rw [← e] at h ⊢
  have h2 := BitVec.toInt_eq_toNat_cond x.toBitVec
  have h3 := x.toBitVec.isLt
  split at h2 <;> omega
theorem ck_ofnat {x : Int32} (h : x.toBitVec.toNat ≤ 2147483647) : x.toInt = (x.toBitVec.toNat : Int) := by
  have e : x.toBitVec.toInt = x.toInt := Int32.toInt_toBitVec x
  rw [← e]
  have h2 := BitVec.toInt_eq_toNat_cond x.toBitVec
  split at h2 <;> omega
theorem ck_andN (x y : Int32) : (x &&& y).toBitVec.toNat = x.toBitVec.toNat &&& y.toBitVec.toNat := by
  rw [Int32.toBitVec_and, BitVec.toNat_and]
theorem ck_orN (x y : Int32) : (x ||| y).toBitVec.toNat = x.toBitVec.toNat ||| y.toBitVec.toNat := by
  rw [Int32.toBitVec_or, BitVec.toNat_or]
theorem ck_xorN (x y : Int32) : (x ^^^ y).toBitVec.toNat = x.toBitVec.toNat ^^^ y.toBitVec.toNat := by
  rw [Int32.toBitVec_xor, BitVec.toNat_xor]
theorem ck_andL {x : Int32} (y : Int32) (h : 0 ≤ x.toInt) : 0 ≤ (x &&& y).toInt ∧ (x &&& y).toInt ≤ x.toInt := by
  have e := ck_nat h
  have h2 := ck_i32 x
  have h3 : (x &&& y).toBitVec.toNat ≤ x.toBitVec.toNat := by rw [ck_andN]; exact Nat.and_le_left
  rw [ck_ofnat (x := x &&& y) (by omega)]
  omega
theorem ck_andR (x : Int32) {y : Int32} (h : 0 ≤ y.toInt) : 0 ≤ (x &&& y).toInt ∧ (x &&& y).toInt ≤ y.toInt := by
  have e := ck_nat h
  have h2 := ck_i32 y
  have h3 : (x &&& y).toBitVec.toNat ≤ y.toBitVec.toNat := by rw [ck_andN]; exact Nat.and_le_right
  rw [ck_ofnat (x := x &&& y) (by omega)]
  omega
/-- x & y -/
def ck_and (I : List ck_I) (f g : ck_L) : List ck_I × ck_L :=
  ck_two (fun x y => x &&& y) I f g (
    let a := ck_rng I f
    let b := ck_rng I g
    if 0 ≤ a.1 then
      if 0 ≤ b.1 then (I ++ [(0, min a.2 b.2, 2, f)], (I.length, 1, 0)) else (I ++ [(0, a.2, 2, f)], (I.length, 1, 0))
    else if 0 ≤ b.1 then (I ++ [(0, b.2, 2, g)], (I.length, 1, 0)) else ck_full I)
theorem ck_and_ok {ν : Nat → Int} {I : List ck_I} {f g : ck_L} {x y : Int32} (h : ck_gi ν I) (wf : ck_wf I.length f) (wg : ck_wf I.length g) (hx : x.toInt = ck_ev ν f) (hy : y.toInt = ck_ev ν g) : ck_res ν I (ck_and I f g).1 (ck_and I f g).2 (x &&& y).toInt := by
  have rx := ck_rng32 h hx
  have ry := ck_rng32 h hy
  refine ck_two_ok (o := fun x y => x &&& y) h hx hy ?_
  dsimp only
  by_cases ha : 0 ≤ (ck_rng I f).1
  · have hl := ck_andL y (show 0 ≤ x.toInt by omega)
    rw [if_pos ha]
    by_cases hb : 0 ≤ (ck_rng I g).1
    · have hr := ck_andR x (show 0 ≤ y.toInt by omega)
      rw [if_pos hb]
      exact ck_fresh h _ hl.1 (by dsimp only; omega) (fun e => by cases e) (fun _ => ⟨wf, by dsimp only; omega⟩)
    · rw [if_neg hb]
      exact ck_fresh h _ hl.1 (by dsimp only; omega) (fun e => by cases e) (fun _ => ⟨wf, by dsimp only; omega⟩)
  · rw [if_neg ha]
    by_cases hb : 0 ≤ (ck_rng I g).1
    · have hr := ck_andR x (show 0 ≤ y.toInt by omega)
      rw [if_pos hb]
      exact ck_fresh h _ hr.1 (by dsimp only; omega) (fun e => by cases e) (fun _ => ⟨wg, by dsimp only; omega⟩)
    · rw [if_neg hb]
      exact ck_full_ok h _
def ck_pow (a b : Int × Int) : Nat := (max a.2 b.2).toNat.log2 + 1
theorem ck_pow_ok {a b : Int × Int} {x y : Int32} (hx : x.toInt ≤ a.2) (hy : y.toInt ≤ b.2) (h0 : 0 ≤ x.toInt) (h1 : 0 ≤ y.toInt) : x.toBitVec.toNat < 2 ^ ck_pow a b ∧ y.toBitVec.toNat < 2 ^ ck_pow a b := by
  have e := ck_nat h0
  have e2 := ck_nat h1
  have h2 : (max a.2 b.2).toNat < 2 ^ ck_pow a b := Nat.lt_log2_self
  omega
/-- x | y -/
def ck_or (I : List ck_I) (f g : ck_L) : List ck_I × ck_L :=
  ck_two (fun x y => x ||| y) I f g (
    let a := ck_rng I f
    let b := ck_rng I g
    if 0 ≤ a.1 ∧ 0 ≤ b.1 ∧ ck_pow a b ≤ 31 then ck_btw I 0 (2 ^ ck_pow a b - 1) else ck_full I)
theorem ck_small {n k : Nat} (h : n < 2 ^ k) (hk : k ≤ 31) : n ≤ 2147483647 ∧ (n : Int) ≤ 2 ^ k - 1 := by
  have h1 : 2 ^ k ≤ 2 ^ 31 := Nat.pow_le_pow_right (by omega) hk
  have h2 : ((2 ^ k : Nat) : Int) = (2 : Int) ^ k := by simp
  omega
theorem ck_or_ok {ν : Nat → Int} {I : List ck_I} {f g : ck_L} {x y : Int32} (h : ck_gi ν I) (hx : x.toInt = ck_ev ν f) (hy : y.toInt = ck_ev ν g) : ck_res ν I (ck_or I f g).1 (ck_or I f g).2 (x ||| y).toInt := by
  have rx := ck_rng32 h hx
  have ry := ck_rng32 h hy
  refine ck_two_ok (o := fun x y => x ||| y) h hx hy ?_
  dsimp only
  by_cases hc : 0 ≤ (ck_rng I f).1 ∧ 0 ≤ (ck_rng I g).1 ∧ ck_pow (ck_rng I f) (ck_rng I g) ≤ 31
  · rw [if_pos hc]
    obtain ⟨p1, p2⟩ := ck_pow_ok rx.2 ry.2 (by omega) (by omega)
    have h3 : (x ||| y).toBitVec.toNat < 2 ^ ck_pow (ck_rng I f) (ck_rng I g) := by rw [ck_orN]; exact Nat.or_lt_two_pow p1 p2
    obtain ⟨s1, s2⟩ := ck_small h3 hc.2.2
    rw [ck_ofnat s1]
    exact ck_btw_ok h (by omega) s2
  · rw [if_neg hc]
    exact ck_full_ok h _
/-- x ^ y -/
def ck_xor (I : List ck_I) (f g : ck_L) : List ck_I × ck_L :=
  ck_two (fun x y => x ^^^ y) I f g (
    let a := ck_rng I f
    let b := ck_rng I g
    if 0 ≤ a.1 ∧ 0 ≤ b.1 ∧ ck_pow a b ≤ 31 then ck_btw I 0 (2 ^ ck_pow a b - 1) else ck_full I)
theorem ck_xor_ok {ν : Nat → Int} {I : List ck_I} {f g : ck_L} {x y : Int32} (h : ck_gi ν I) (hx : x.toInt = ck_ev ν f) (hy : y.toInt = ck_ev ν g) : ck_res ν I (ck_xor I f g).1 (ck_xor I f g).2 (x ^^^ y).toInt := by
  have rx := ck_rng32 h hx
  have ry := ck_rng32 h hy
  refine ck_two_ok (o := fun x y => x ^^^ y) h hx hy ?_
  dsimp only
  by_cases hc : 0 ≤ (ck_rng I f).1 ∧ 0 ≤ (ck_rng I g).1 ∧ ck_pow (ck_rng I f) (ck_rng I g) ≤ 31
  · rw [if_pos hc]
    obtain ⟨p1, p2⟩ := ck_pow_ok rx.2 ry.2 (by omega) (by omega)
    have h3 : (x ^^^ y).toBitVec.toNat < 2 ^ ck_pow (ck_rng I f) (ck_rng I g) := by rw [ck_xorN]; exact Nat.xor_lt_two_pow p1 p2
    obtain ⟨s1, s2⟩ := ck_small h3 hc.2.2
    rw [ck_ofnat s1]
    exact ck_btw_ok h (by omega) s2
  · rw [if_neg hc]
    exact ck_full_ok h _
theorem ck_sl : ∀ n, n < 32 → ((nI n &&& 31).toBitVec.smod 32).toNat = n := by decide +kernel
theorem ck_su : ∀ n, n < 32 → (((nI n).toUInt32 &&& Int32.toUInt32 31).toBitVec % 32).toNat = n := by decide +kernel
theorem ck_isnI {y : Int32} (h0 : 0 ≤ y.toInt) : y = nI y.toInt.toNat := by
  apply Int32.toInt_inj.mp
  have h2 := ck_i32 y
  rw [nI_toInt (by omega)]
  omega
/-- x << y -/
def ck_shl (I : List ck_I) (f g : ck_L) : List ck_I × ck_L :=
  ck_two (fun x y => x <<< (y &&& 31)) I f g (
    let a := ck_rng I f
    let b := ck_rng I g
    if 0 ≤ b.1 ∧ b.2 ≤ 31 ∧ 0 ≤ a.1 ∧ a.2 * 2 ^ b.2.toNat ≤ 2147483647 then ck_btw I (a.1 * 2 ^ b.1.toNat) (a.2 * 2 ^ b.2.toNat) else ck_full I)
theorem ck_powL {u w : Int} {m n : Nat} (hu : 0 ≤ u) (h : u ≤ w) (hm : m ≤ n) : u * 2 ^ m ≤ w * 2 ^ n := by
  have h1 : (2 : Int) ^ m ≤ 2 ^ n := by
    have h2 : 2 ^ m ≤ 2 ^ n := Nat.pow_le_pow_right (by omega) hm
    have h3 : ((2 ^ m : Nat) : Int) = (2 : Int) ^ m := by simp
    have h4 : ((2 ^ n : Nat) : Int) = (2 : Int) ^ n := by simp
    omega
  have h5 : (0 : Int) ≤ 2 ^ m := Int.pow_nonneg (by omega)
  exact Int.le_trans (Int.mul_le_mul_of_nonneg_left h1 hu) (Int.mul_le_mul_of_nonneg_right h (Int.le_trans h5 h1))
theorem ck_shlI {x y : Int32} (hx : 0 ≤ x.toInt) (hy : 0 ≤ y.toInt) (hy2 : y.toInt ≤ 31) (hs : x.toInt * 2 ^ y.toInt.toNat ≤ 2147483647) : (x <<< (y &&& 31)).toInt = x.toInt * 2 ^ y.toInt.toNat := by
  have ey := ck_isnI hy
  have e := pk_shl x (y &&& 31) y.toInt.toNat (by rw [ey, nI_toInt (by omega)]; exact ck_sl _ (by omega))
  have ex := ck_nat hx
  have h3 : ((x.toBitVec.toNat * 2 ^ y.toInt.toNat : Nat) : Int) = x.toInt * 2 ^ y.toInt.toNat := by rw [ex]; simp
  have h4 : x.toBitVec.toNat * 2 ^ y.toInt.toNat % 2 ^ 32 = x.toBitVec.toNat * 2 ^ y.toInt.toNat := Nat.mod_eq_of_lt (by omega)
  rw [h4] at e
  rw [ck_ofnat (by omega), e, h3]
theorem ck_shl_ok {ν : Nat → Int} {I : List ck_I} {f g : ck_L} {x y : Int32} (h : ck_gi ν I) (hx : x.toInt = ck_ev ν f) (hy : y.toInt = ck_ev ν g) : ck_res ν I (ck_shl I f g).1 (ck_shl I f g).2 (x <<< (y &&& 31)).toInt := by
  have rx := ck_rng32 h hx
  have ry := ck_rng32 h hy
  refine ck_two_ok (o := fun x y => x <<< (y &&& 31)) h hx hy ?_
  dsimp only
  split
  · rename_i hc
    obtain ⟨c1, c2, c3, c4⟩ := hc
    have u1 : x.toInt * 2 ^ y.toInt.toNat ≤ (ck_rng I f).2 * 2 ^ (ck_rng I g).2.toNat := ck_powL (by omega) rx.2 (by omega)
    have u2 : (ck_rng I f).1 * 2 ^ (ck_rng I g).1.toNat ≤ x.toInt * 2 ^ y.toInt.toNat := ck_powL c3 rx.1 (by omega)
    rw [ck_shlI (by omega) (by omega) (by omega) (Int.le_trans u1 c4)]
    exact ck_btw_ok h u2 u1
  · exact ck_full_ok h _
theorem ck_divP {u : Int} {n : Nat} (hu : 0 ≤ u) : 0 ≤ u / 2 ^ n ∧ u / 2 ^ n ≤ u := by
  have h5 : (0 : Int) ≤ 2 ^ n := Int.pow_nonneg (by omega)
  exact ⟨Int.ediv_nonneg hu h5, Int.ediv_le_self _ hu⟩
/-- x >> y -/
def ck_shr (I : List ck_I) (f g : ck_L) : List ck_I × ck_L :=
  ck_two (fun x y => x >>> (y &&& 31)) I f g (
    let a := ck_rng I f
    let b := ck_rng I g
    if 0 ≤ b.1 ∧ b.2 ≤ 31 ∧ 0 ≤ a.1 then (if g.2.1 = 0 then ck_btw I 0 (a.2 / 2 ^ g.2.2.toNat) else ck_btw I 0 a.2) else ck_full I)
theorem ck_shrI {x y : Int32} (hy : 0 ≤ y.toInt) (hy2 : y.toInt ≤ 31) : (x >>> (y &&& 31)).toInt = x.toInt / 2 ^ y.toInt.toNat := by
  have ey := ck_isnI hy
  rw [pk_shr x (y &&& 31) y.toInt.toNat (by rw [ey, nI_toInt (by omega)]; exact ck_sl _ (by omega)), Int.shiftRight_eq_div_pow]
  simp
theorem ck_shr_ok {ν : Nat → Int} {I : List ck_I} {f g : ck_L} {x y : Int32} (h : ck_gi ν I) (hx : x.toInt = ck_ev ν f) (hy : y.toInt = ck_ev ν g) : ck_res ν I (ck_shr I f g).1 (ck_shr I f g).2 (x >>> (y &&& 31)).toInt := by
  have rx := ck_rng32 h hx
  have ry := ck_rng32 h hy
  refine ck_two_ok (o := fun x y => x >>> (y &&& 31)) h hx hy ?_
  dsimp only
  by_cases hc : 0 ≤ (ck_rng I g).1 ∧ (ck_rng I g).2 ≤ 31 ∧ 0 ≤ (ck_rng I f).1
  · rw [if_pos hc, ck_shrI (by omega) (by omega)]
    have h1 := ck_divP (u := x.toInt) (n := y.toInt.toNat) (by omega)
    by_cases h0 : g.2.1 = 0
    · rw [if_pos h0]
      have e2 : y.toInt = g.2.2 := by rw [hy]; unfold ck_ev; rw [h0, Int.zero_mul, Int.zero_add]
      rw [← e2]
      refine ck_btw_ok h h1.1 (Int.ediv_le_ediv ?_ rx.2)
      exact Int.pow_pos (by omega)
    · rw [if_neg h0]
      exact ck_btw_ok h h1.1 (by omega)
  · rw [if_neg hc]
    exact ck_full_ok h _
/-- x >>> y -/
def ck_ushr (I : List ck_I) (f g : ck_L) : List ck_I × ck_L :=
  ck_two (fun x y => (x.toUInt32 >>> (y.toUInt32 &&& Int32.toUInt32 31)).toInt32) I f g (
    let a := ck_rng I f
    let b := ck_rng I g
    if 0 ≤ b.1 ∧ b.2 ≤ 31 ∧ 0 ≤ a.1 then ck_btw I 0 a.2 else ck_full I)
theorem ck_ushr_ok {ν : Nat → Int} {I : List ck_I} {f g : ck_L} {x y : Int32} (h : ck_gi ν I) (hx : x.toInt = ck_ev ν f) (hy : y.toInt = ck_ev ν g) : ck_res ν I (ck_ushr I f g).1 (ck_ushr I f g).2 (x.toUInt32 >>> (y.toUInt32 &&& Int32.toUInt32 31)).toInt32.toInt := by
  have rx := ck_rng32 h hx
  have ry := ck_rng32 h hy
  refine ck_two_ok (o := fun x y => (x.toUInt32 >>> (y.toUInt32 &&& Int32.toUInt32 31)).toInt32) h hx hy ?_
  dsimp only
  by_cases hc : 0 ≤ (ck_rng I g).1 ∧ (ck_rng I g).2 ≤ 31 ∧ 0 ≤ (ck_rng I f).1
  · rw [if_pos hc]
    have ey := ck_isnI (y := y) (by omega)
    have e := pk_ushr x y y.toInt.toNat (by rw [ey, nI_toInt (by omega)]; exact ck_su _ (by omega))
    have ex := ck_nat (x := x) (by omega)
    have h2 := ck_i32 x
    have h3 := Nat.div_le_self x.toBitVec.toNat (2 ^ y.toInt.toNat)
    rw [ck_ofnat (by omega), e]
    exact ck_btw_ok h (by omega) (by omega)
  · rw [if_neg hc]
    exact ck_full_ok h _
/-! what a comparison tells -/
def ck_cutHi (I : List ck_I) (s : Nat) (c : Int) : Option (List ck_I) :=
  match I[s]? with
  | none => some I
  | some q => if q.1 ≤ min q.2.1 c then some (I.set s (q.1, min q.2.1 c, q.2.2)) else none
def ck_cutLo (I : List ck_I) (s : Nat) (c : Int) : Option (List ck_I) :=
  match I[s]? with
  | none => some I
  | some q => if max q.1 c ≤ q.2.1 then some (I.set s (max q.1 c, q.2.1, q.2.2)) else none
theorem ck_gi_set {ν : Nat → Int} {I : List ck_I} {s : Nat} {q : ck_I} {lo hi : Int} (h : ck_gi ν I) (hq : I[s]? = some q) (h1 : lo ≤ ν s) (h2 : ν s ≤ hi) : ck_gi ν (I.set s (lo, hi, q.2.2)) := by
  intro j r hr
  rw [List.length_set]
  by_cases hj : s = j
  · subst hj
    obtain ⟨a1, a2, a3, a4⟩ := h _ _ hq
    have hs : s < I.length := (List.getElem?_eq_some_iff.mp hq).1
    rw [List.getElem?_set_self hs] at hr
    cases hr
    exact ⟨h1, h2, a3, a4⟩
  · rw [List.getElem?_set_ne hj] at hr
    exact h j r hr
theorem ck_cutHi_ok {ν : Nat → Int} {I : List ck_I} {s : Nat} {c : Int} (h : ck_gi ν I) (hc : ν s ≤ c) : ∃ I', ck_cutHi I s c = some I' ∧ ck_gi ν I' ∧ I'.length = I.length := by
  unfold ck_cutHi
  cases hq : I[s]? with
  | none => exact ⟨I, rfl, h, rfl⟩
  | some q =>
    obtain ⟨a1, a2, -, -⟩ := h _ _ hq
    dsimp only
    rw [if_pos (by omega)]
    exact ⟨_, rfl, ck_gi_set h hq a1 (by omega), List.length_set⟩
theorem ck_cutLo_ok {ν : Nat → Int} {I : List ck_I} {s : Nat} {c : Int} (h : ck_gi ν I) (hc : c ≤ ν s) : ∃ I', ck_cutLo I s c = some I' ∧ ck_gi ν I' ∧ I'.length = I.length := by
  unfold ck_cutLo
  cases hq : I[s]? with
  | none => exact ⟨I, rfl, h, rfl⟩
  | some q =>
    obtain ⟨a1, a2, -, -⟩ := h _ _ hq
    dsimp only
    rw [if_pos (by omega)]
    exact ⟨_, rfl, ck_gi_set h hq (by omega) a2, List.length_set⟩
/-- the form is at most c -/
def ck_le (I : List ck_I) (f : ck_L) (c : Int) : Option (List ck_I) :=
  if f.2.1 = 0 then (if f.2.2 ≤ c then some I else none)
  else if 0 < f.2.1 then ck_cutHi I f.1 ((c - f.2.2) / f.2.1)
  else ck_cutLo I f.1 (-((c - f.2.2) / (-f.2.1)))
theorem ck_le_ok {ν : Nat → Int} {I : List ck_I} {f : ck_L} {c : Int} (h : ck_gi ν I) (hc : ck_ev ν f ≤ c) : ∃ I', ck_le I f c = some I' ∧ ck_gi ν I' ∧ I'.length = I.length := by
  unfold ck_ev at hc
  unfold ck_le
  by_cases h0 : f.2.1 = 0
  · rw [if_pos h0, if_pos (by rw [h0, Int.zero_mul] at hc; omega)]
    exact ⟨I, rfl, h, rfl⟩
  · rw [if_neg h0]
    by_cases hp : 0 < f.2.1
    · rw [if_pos hp]
      refine ck_cutHi_ok h (Int.le_ediv_of_mul_le hp ?_)
      rw [Int.mul_comm]; omega
    · rw [if_neg hp]
      refine ck_cutLo_ok h ?_
      have h1 : -ν f.1 ≤ (c - f.2.2) / (-f.2.1) := by
        refine Int.le_ediv_of_mul_le (by omega) ?_
        rw [Int.neg_mul_neg, Int.mul_comm]; omega
      omega
def ck_ge (I : List ck_I) (f : ck_L) (c : Int) : Option (List ck_I) := ck_le I (f.1, -f.2.1, -f.2.2) (-c)
theorem ck_ge_ok {ν : Nat → Int} {I : List ck_I} {f : ck_L} {c : Int} (h : ck_gi ν I) (hc : c ≤ ck_ev ν f) : ∃ I', ck_ge I f c = some I' ∧ ck_gi ν I' ∧ I'.length = I.length := by
  refine ck_le_ok h ?_
  unfold ck_ev at hc ⊢
  dsimp only
  rw [Int.neg_mul]; omega
/-- x < y -/
def ck_lt2 (I : List ck_I) (f g : ck_L) : Option (List ck_I) := (ck_le I f ((ck_rng I g).2 - 1)).bind fun J => ck_ge J g ((ck_rng I f).1 + 1)
/-- x ≤ y -/
def ck_le2 (I : List ck_I) (f g : ck_L) : Option (List ck_I) := (ck_le I f (ck_rng I g).2).bind fun J => ck_ge J g (ck_rng I f).1
/-- x = y -/
def ck_eq2 (I : List ck_I) (f g : ck_L) : Option (List ck_I) := (ck_le2 I f g).bind fun J => ck_le2 J g f
/-- x ≠ y -/
def ck_ne2 (I : List ck_I) (f g : ck_L) : Option (List ck_I) :=
  let a := ck_rng I f
  let b := ck_rng I g
  if b.1 = b.2 then (if a.1 = b.1 then ck_ge I f (b.1 + 1) else if a.2 = b.1 then ck_le I f (b.1 - 1) else some I)
  else if a.1 = a.2 then (if b.1 = a.1 then ck_ge I g (a.1 + 1) else if b.2 = a.1 then ck_le I g (a.1 - 1) else some I)
  else some I
theorem ck_lt2_ok {ν : Nat → Int} {I : List ck_I} {f g : ck_L} {x y : Int32} (h : ck_gi ν I) (hx : x.toInt = ck_ev ν f) (hy : y.toInt = ck_ev ν g) (hc : x.toInt < y.toInt) : ∃ I', ck_lt2 I f g = some I' ∧ ck_gi ν I' ∧ I'.length = I.length := by
  have rx := ck_rng32 h hx
  have ry := ck_rng32 h hy
  obtain ⟨J, e1, h1, l1⟩ := ck_le_ok (f := f) (c := (ck_rng I g).2 - 1) h (by omega)
  obtain ⟨K, e2, h2, l2⟩ := ck_ge_ok (f := g) (c := (ck_rng I f).1 + 1) h1 (by omega)
  exact ⟨K, by unfold ck_lt2; rw [e1]; exact e2, h2, l2.trans l1⟩
theorem ck_le2_ok {ν : Nat → Int} {I : List ck_I} {f g : ck_L} {x y : Int32} (h : ck_gi ν I) (hx : x.toInt = ck_ev ν f) (hy : y.toInt = ck_ev ν g) (hc : x.toInt ≤ y.toInt) : ∃ I', ck_le2 I f g = some I' ∧ ck_gi ν I' ∧ I'.length = I.length := by
  have rx := ck_rng32 h hx
  have ry := ck_rng32 h hy
  obtain ⟨J, e1, h1, l1⟩ := ck_le_ok (f := f) (c := (ck_rng I g).2) h (by omega)
  obtain ⟨K, e2, h2, l2⟩ := ck_ge_ok (f := g) (c := (ck_rng I f).1) h1 (by omega)
  exact ⟨K, by unfold ck_le2; rw [e1]; exact e2, h2, l2.trans l1⟩
theorem ck_eq2_ok {ν : Nat → Int} {I : List ck_I} {f g : ck_L} {x y : Int32} (h : ck_gi ν I) (hx : x.toInt = ck_ev ν f) (hy : y.toInt = ck_ev ν g) (hc : x.toInt = y.toInt) : ∃ I', ck_eq2 I f g = some I' ∧ ck_gi ν I' ∧ I'.length = I.length := by
  obtain ⟨J, e1, h1, l1⟩ := ck_le2_ok h hx hy (by omega)
  obtain ⟨K, e2, h2, l2⟩ := ck_le2_ok h1 hy hx (by omega)
  exact ⟨K, by unfold ck_eq2; rw [e1]; exact e2, h2, l2.trans l1⟩
theorem ck_ne2_ok {ν : Nat → Int} {I : List ck_I} {f g : ck_L} {x y : Int32} (h : ck_gi ν I) (hx : x.toInt = ck_ev ν f) (hy : y.toInt = ck_ev ν g) (hc : x.toInt ≠ y.toInt) : ∃ I', ck_ne2 I f g = some I' ∧ ck_gi ν I' ∧ I'.length = I.length := by
  have rx := ck_rng32 h hx
  have ry := ck_rng32 h hy
  unfold ck_ne2
  dsimp only
  split
  · split
    · exact ck_ge_ok h (by omega)
    · split
      · exact ck_le_ok h (by omega)
      · exact ⟨I, rfl, h, rfl⟩
  · split
    · split
      · exact ck_ge_ok h (by omega)
      · split
        · exact ck_le_ok h (by omega)
        · exact ⟨I, rfl, h, rfl⟩
    · exact ⟨I, rfl, h, rfl⟩
