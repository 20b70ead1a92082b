/-! THE CLAIM OUT OF ONE WALK OF THE LAW'S BODY. Your part is whole_start (and what it stands on); all else here is the same for every law, but numbers. -/
def R_law : String := "ScratchLadderLaw"
def lw_P (b : Addr) (xs : List Int32) (args : Array Value) (s : State) : Prop := args = #[.ref b] ∧ s.IntsAt b xs ∧ xs.length ≤ 7 ∧ (Jvm.Cond.and given_1 narrow_1).before args s = true
def lw_Q (_ : Array Value) (s : State) (o : Outcome) (t : State) : Prop := o = .returned (some (.int 1)) ∧ Framed s o t [] 600000 7302250
def lw_Z (below : List Frame) (a : Array Value) (s : State) : State → Prop := fun t => ∃ o, t.status = .running ∧ Ended t below o ∧ lw_Q a s o t
/-- the law's own end, with 1 on the stack, nothing written that was there before, its room as the claim has it -/
theorem lw_ret {p : Program} {l : Launch} {e : Env} {s : State} {m : MethodId} {below : List Frame} {meth : Method} {c : Code} {b : Nat} (hx : p.tables.exec = Jvm.exec) (hb : c.code = code) (hr : meth.sig.returnType = ret) (hlocks : meth.locks = false) {pc : Nat} {H : Heap} {ls : Array Slot} (hdg : decode code pc = .ok (.ireturn, 1)) : W p l e room_1 s m #[Value.ref b] below meth c H [] 600000 7302250 (lw_Z below #[Value.ref b] s) (F0 m pc ls [.int 1]) := by
  intro T hT X
  obtain ⟨fs, hret, hrun, hended, hW, hframe⟩ := X.leave (v := some (.int 1)) (hlocks := hlocks) (fun h => by rw [hr] at h; cases h)
  have hmeth' : T.vm.method? m = some meth := X.method'
  refine ⟨T.setFrames fs, ?_, .returned (some (.int 1)), hrun, hended, rfl, ⟨_, rfl⟩, hW, hframe⟩
  jvm_step X.here [X.here.top, hx, hb, hdg, hmeth', hr, ret, narrow_b1]
  (try refine ⟨rfl, ?_⟩); (try refine ⟨rfl, ?_⟩)
  first | (intro acts; rw [hret _ acts rfl rfl rfl]) | rw [hret _ _ rfl rfl rfl]
  exact Steps.refl _
/-- what holds at the law's entry: the machine, the code, the tables' words (any of lw_tbl by 'hts w (by decide +kernel)'), the script of L ints xs at the cell b, what the Statement gives of the start (any of its parts by flat_of_before) -/
def lw_At (p : Program) (s : State) (m : MethodId) (meth : Method) (c : Code) (b L : Nat) (xs : Nat → Int32) : Prop :=
  p.tables.exec = Jvm.exec ∧ c.code = code ∧ meth.sig.returnType = ret ∧ c.maxLocals = 4 ∧ s.vm.findClass R_law = some m.cls ∧ (∀ w ∈ lw_tbl, w.before #[Value.ref b] s = true) ∧ va_X b L xs s s.heap ∧ b < s.heap.size ∧ meth.locks = false ∧ (Jvm.Cond.and given_1 narrow_1).before #[Value.ref b] s = true
/-! the law's own run: the script's numbers are the first symbols -/
/-- the script z of n numbers: what stands in it, how long it is -/
def ck_scr (zz n : Nat) (pc : Nat) (i : Instr × Nat) (I : List ck_I) (L : List (Nat × ck_V)) (S : List ck_V) (X : ck_D) (k : Nat × Nat × Nat) : Option (List (Nat × ck_S)) := match i, S with
  | (.iaload, 1), .inl f :: .inr (2, z) :: S => if z = zz ∧ f.2.1 = 0 ∧ 0 ≤ f.2.2 ∧ f.2.2 < (n : Int) ∧ n ≤ I.length then some [(pc + 1, (I, L, .inl (f.2.2.toNat, 1, 0) :: S, X, k))] else none
  | (.arraylength, 1), .inr (2, z) :: S => if z = zz ∧ n < 2147483648 then some [(pc + 1, (I, L, .inl (ck_k n) :: S, X, k))] else none
  | _, _ => none
def ck_rtL (i : Instr × Nat) (I : List ck_I) (S : List ck_V) (_ : ck_D) (k : Nat × Nat × Nat) : Bool := match i, S with
  | (.ireturn, 1), [.inl f] => decide ((ck_rng I f).1 = 1) && decide ((ck_rng I f).2 = 1) && decide (k.2.1 ≤ 600000) && decide (k.2.2 ≤ 7302250)
  | _, _ => false
def ck_stepL (cl : List vw_C) (mts : List ck_MT) (sh : List ck_Sh) (T : ck_T) (cs : List ck_C) (wr : List (Nat × Nat)) (zz n : Nat) (pc : Nat) (I : List ck_I) (L : List (Nat × ck_V)) (S : List ck_V) (X : ck_D) (k : Nat × Nat × Nat) : Option (List (Nat × ck_S)) := match decode code pc with
  | .ok i => match ck_scr zz n pc i I L S X k with
    | some xs => some xs
    | none => ck_step cl mts sh T cs wr false 4 600000 7302250 2048 84000 ck_rtL code pc I L S X k
  | _ => none
section CKW
variable {p : Program} {l : Launch} {e : Env} {s : State} {m : MethodId} {below : List Frame} {meth : Method} {c : Code}
variable {D : va_G} {cl : List vw_C} {st : Nat → Nat} {sh : List ck_Sh} {wr : List (Nat × Nat)} {ws0 : va_W}
variable {Ts : List Cond} {AO : List String} {NM : List (String × Nat × MethodName × String)} {SL : List (String × Nat × Nat)} {mts : List ck_MT}
theorem ck_stepL_ok {T : ck_T} {cs : List ck_C} {b Ln zz n0 : Nat} {xsc : Nat → Int32} {ν0 : Nat → Int} (C0 : lw_At p s m meth c b Ln xsc) (hzz : st zz = b) (hν0 : ∀ j, j < n0 → ν0 j = (xsc j).toInt) (hLn : Ln ≤ n0) (hts : ∀ w ∈ Ts, w.before #[Value.ref b] s = true) (hgood : GoodIn Ts Ts) (hamb : ck_amb NM AO SL st s) (hC : ck_okC cl Ts) (hT : ck_okT cl Ts NM AO SL mts R_law T) (hCs : ∀ co ∈ cs, ck_Met l Ts mts D cl NM AO SL st sh co)
    (n pc : Nat) (I : List ck_I) (L : List (Nat × ck_V)) (S : List ck_V) (X : ck_D) (nc mc ms : Nat) (xs : List (Nat × ck_S)) (ν : Nat → Int) (ws : va_W) (tys : List (ClassId × FieldType)) (H : Heap) (locs : List Loc) (ls : Array Slot) (vs : List Value) (h : ck_stepL cl mts sh T cs wr zz Ln pc I L S X (nc, mc, ms) = some xs) (hn : n ≤ I.length) (hν : ∀ j, j < n0 → ν j = ν0 j) (hG : ck_G D cl st sh (fun q : Nat => s.heap.size ≤ q) s 4 wr ws0 I L S X nc ν ws tys H locs ls vs) (K : ∀ x ∈ xs, ck_N p l e room_1 s m #[Value.ref b] below meth c (lw_Z below #[Value.ref b] s) D cl st sh (fun q : Nat => s.heap.size ≤ q) 4 wr ws0 n ν x) : W p l e room_1 s m #[Value.ref b] below meth c H locs mc ms (lw_Z below #[Value.ref b] s) (F0 m pc ls vs) := by
  obtain ⟨hx, hb, hr, hml, hown, -, hX, hbl, hlocks, -⟩ := C0
  have hbA : ¬ (fun q : Nat => s.heap.size ≤ q) b := Nat.not_le.mpr hbl
  have hS := hG.2.2.2.2.2.2.2.2.1
  unfold ck_stepL at h
  split at h
  · rename_i i hd
    split at h
    · rename_i ys hy
      cases h
      unfold ck_scr at hy
      split at hy
      · rename_i f0 z0 S0
        split at hy
        · rename_i hc
          obtain ⟨c1, c2, c3, c4, c5⟩ := hc
          cases hy
          obtain ⟨v, vs', rfl, ⟨w1, x, rfl, e1⟩, h2⟩ := hG.gs.pop
          obtain ⟨v, vs2, rfl, hv, h5⟩ := h2.pop
          have ev : v = .ref (st _) := hv
          subst ev
          rw [c1, hzz]
          have ex : x.toInt = f0.2.2 := by rw [e1]; unfold ck_ev; rw [c2, Int.zero_mul, Int.zero_add]
          have ec : x.toNatClampNeg = x.toInt.toNat := rfl
          refine va_sld hx hb hX hbl hbA hS (vp_in_iff.mpr ⟨by omega, by omega⟩) hd ?_
          have hj : x.toNatClampNeg < n0 := by omega
          refine ck_pushV (V := .inl (f0.2.2.toNat, 1, 0)) (hG.stk h5) ⟨Or.inr ?_, _, rfl, ?_⟩ (K _ List.mem_cons_self)
          · show f0.2.2.toNat < I.length
            omega
          · show _ = 1 * ν f0.2.2.toNat + 0
            rw [← ex, ← ec, hν _ hj, hν0 _ hj]
            omega
        · cases hy
      · split at hy
        · rename_i hc
          obtain ⟨c1, c2⟩ := hc
          cases hy
          obtain ⟨v, vs2, rfl, hv, h5⟩ := hG.gs.pop
          have ev : v = .ref (st _) := hv
          subst ev
          rw [c1, hzz]
          refine va_slen hx hb hX hbl hbA hS hd (ck_pushv (hG.stk h5) hn (f := ck_k Ln) ?_ (K _ List.mem_cons_self))
          have e2 : (Int32.ofNat Ln).toInt = (Ln : Int) := nI_toInt (n := Ln) (by omega)
          rw [e2]
          exact ck_k_ok hG.gi _
        · cases hy
      · cases hy
    · refine ck_step_ok hx hb hml hown hts hgood hamb hC hT hCs (fun q hq => hq) (fun z => by cases z) rfl rfl rfl rfl (fun i hd hrr hGG => ?_) h hn hG K
      unfold ck_rtL at hrr
      split at hrr
      · simp only [Bool.and_eq_true, decide_eq_true_eq] at hrr
        obtain ⟨⟨⟨r1, r2⟩, r3⟩, r4⟩ := hrr
        obtain ⟨v, vs2, rfl, ⟨w1, x, rfl, e1⟩, h5⟩ := hGG.gs.pop
        cases vs2 with
        | cons a b => exact h5.elim
        | nil =>
          have rx := ck_rng32 hGG.gi e1
          have ex : x = 1 := Int32.toInt_inj.mp (by have : (1 : Int32).toInt = 1 := rfl; omega)
          subst ex
          refine va_forget (fun q hq => hGG.2.2.2.2.2.2.2.2.1.2.2 q hq) ?_
          refine W.widen r3 r4 ?_
          exact lw_ret hx hb hr hlocks hd
      · cases hrr
  · cases h
end CKW
