/-! THE CLAIM OUT OF ONE WALK OF THE LAW'S BODY. Your part is whole_start (and what it stands on); all else here is the same for every law, but numbers. -/
def R_law : String := "ScratchLadderLaw"
def lw_P (b : Addr) (xs : List Int32) (args : Array Value) (s : State) : Prop := args = #[.ref b] ∧ s.IntsAt b xs ∧ xs.length ≤ 3584 ∧ (Jvm.Cond.and given_1 narrow_1).before args s = true
def lw_Q (_ : Array Value) (s : State) (o : Outcome) (t : State) : Prop := o = .returned (some (.int 1)) ∧ Framed s o t [] 600000 7302250
def lw_Z (below : List Frame) (a : Array Value) (s : State) : State → Prop := fun t => ∃ o, t.status = .running ∧ Ended t below o ∧ lw_Q a s o t
/-- the law's own end, with 1 on the stack, nothing written that was there before, its room as the claim has it -/
theorem lw_ret {p : Program} {l : Launch} {e : Env} {s : State} {m : MethodId} {below : List Frame} {meth : Method} {c : Code} {b : Nat} (hx : p.tables.exec = Jvm.exec) (hb : c.code = code) (hr : meth.sig.returnType = ret) (hlocks : meth.locks = false) {pc : Nat} {H : Heap} {ls : Array Slot} (hdg : decode code pc = .ok (.ireturn, 1)) : W p l e room_1 s m #[Value.ref b] below meth c H [] 600000 7302250 (lw_Z below #[Value.ref b] s) (F0 m pc ls [.int 1]) := by
  intro T hT X
  obtain ⟨fs, hret, hrun, hended, hW, hframe⟩ := X.leave (v := some (.int 1)) (hlocks := hlocks) (fun h => by rw [hr] at h; cases h)
  have hmeth' : T.vm.method? m = some meth := X.method'
  refine ⟨T.setFrames fs, ?_, .returned (some (.int 1)), hrun, hended, rfl, ⟨_, rfl⟩, hW, hframe⟩
  jvm_step X.here [X.here.top, hx, hb, hdg, hmeth', hr, ret, narrow_b1]
  (try refine ⟨rfl, ?_⟩); (try refine ⟨rfl, ?_⟩)
  first | (intro acts; rw [hret _ acts rfl rfl rfl]) | rw [hret _ _ rfl rfl rfl]
  exact Steps.refl _
/-- what holds at the law's entry: the machine, the code, the tables' words (any of lw_tbl by 'hts w (by decide +kernel)'), the script of L ints xs at the cell b, what the Statement gives of the start (any of its parts by flat_of_before) -/
def lw_At (p : Program) (s : State) (m : MethodId) (meth : Method) (c : Code) (b L : Nat) (xs : Nat → Int32) : Prop :=
  p.tables.exec = Jvm.exec ∧ c.code = code ∧ meth.sig.returnType = ret ∧ c.maxLocals = 4 ∧ s.vm.findClass R_law = some m.cls ∧ (∀ w ∈ lw_tbl, w.before #[Value.ref b] s = true) ∧ va_X b L xs s s.heap ∧ b < s.heap.size ∧ meth.locks = false ∧ (Jvm.Cond.and given_1 narrow_1).before #[Value.ref b] s = true
/-! the law's own machine: the script beside the pure one -/
def lw_scr (Ln : Nat) (xs : Nat → Int32) (pc : Nat) (i : Instr × Nat) (L : List (Nat × mm_v)) (S : List mm_v) (h : mm_h) (k : Nat × Nat) (N : mm_s → Prop) : Prop := match i, S with
  | (.iaload, 1), .inl x :: .inr (.inr (.inr o)) :: S => o = 900 ∧ 0 ≤ x.toInt ∧ x.toInt < (Ln : Int) ∧ N (pc + 1, L, mm_I (xs x.toInt.toNat) :: S, h, k)
  | (.arraylength, 1), .inr (.inr (.inr o)) :: S => o = 900 ∧ N (pc + 1, L, mm_I (Int32.ofNat Ln) :: S, h, k)
  | _, _ => False
def lw_R (r : Option mm_v) (_ : mm_h) (k : Nat × Nat) : Prop := r = some (mm_I 1) ∧ k.1 ≤ 600000 ∧ k.2 ≤ 7302250
def lw_nx (cs : List mm_C) (Ln : Nat) (xs : Nat → Int32) (x : mm_s) (N : mm_s → Prop) : Prop := (∃ i, decode code x.1 = .ok i ∧ lw_scr Ln xs x.1 i x.2.1 x.2.2.1 x.2.2.2.1 x.2.2.2.2 N) ∨ mm_nx vwCl ck_dt ck_mts ck_T12 cs false 4 600000 7302250 2048 84000 code ret lw_R x N
def lw_W (cs : List mm_C) (Ln : Nat) (xs : Nat → Int32) (x : mm_s) : Prop := ∀ P : mm_s → Prop, (∀ y N, lw_nx cs Ln xs y N → (∀ z, N z → P z) → P y) → P x
theorem lw_W.of {cs : List mm_C} {Ln : Nat} {xs : Nat → Int32} {x : mm_s} (hn : lw_nx cs Ln xs x (lw_W cs Ln xs)) : lw_W cs Ln xs x := fun P hP => hP x _ hn (fun z hz => hz P hP)
section LWK
variable {p : Program} {l : Launch} {e : Env} {R : Room} {s : State} {m : MethodId} {args : Array Value} {below : List Frame} {meth : Method} {c : Code} {Q : State → Prop}
variable {cc : ByteArray} {D : va_G} {cl : List vw_C} {dt : List (List FieldType)} {st : Nat → Nat} {A : Nat → Prop} {nL n0 : Nat} {a0 : Nat → Nat}
variable {Ts : List Cond} {AO : List String} {own : String} {NM : List (String × Nat × MethodName × String)} {SL : List (String × Nat × Nat)} {mts : List ck_MT}
theorem mm_nx_ok {T : mm_T} {cs : List mm_C} {ini : Bool} {CM SM FM LM : Nat} {ret : Option FieldType} {Rt : Option mm_v → mm_h → Nat × Nat → Prop} (hx : p.tables.exec = Jvm.exec) (hb : c.code = cc) (hml : c.maxLocals = nL) (hown : s.vm.findClass own = some m.cls) (hts : ∀ w ∈ Ts, w.before args s = true) (hgood : GoodIn Ts Ts) (hamb : ck_amb NM AO SL st s) (hstr : mm_str st A s s.heap) (hC : ck_okC cl Ts) (hDt : ck_okD cl dt) (hT : mm_okT cl Ts NM AO SL mts own T) (hCs : ∀ co ∈ cs, mm_Met l Ts mts D cl dt NM AO SL st co) (hA : ∀ q, s.heap.size ≤ q → A q) (hini : ini = true → meth.name = "<init>") (hRc : R.cells = CM) (hRs : R.slots = SM) (hRf : R.frames = FM) (hRl : R.locals = LM)
    (hrt : ∀ (i : Instr × Nat) (x : mm_s), decode cc x.1 = .ok i → mm_rt ret Rt i x.2.2.1 x.2.2.2.1 x.2.2.2.2 → mm_K p l e R s m args below meth c Q D cl dt st A nL n0 a0 x) {y : mm_s} {N : mm_s → Prop} (hy : mm_nx cl dt mts T cs ini nL CM SM FM LM cc ret Rt y N) (K : ∀ z, N z → mm_K p l e R s m args below meth c Q D cl dt st A nL n0 a0 z) : mm_K p l e R s m args below meth c Q D cl dt st A nL n0 a0 y := by
  obtain ⟨t1, t2, t3, t4, t5, t6, t7, t8, t9, t10⟩ := hT
  obtain ⟨pc, L, S, h, mc, ms⟩ := y
  obtain ⟨i, hd, hh⟩ := hy
  dsimp only at hd hh
  intro a ws tys H locs ls vs hG
  dsimp only at hG ⊢
  rcases hh with hh | hh | hh | hh | hh | hh | hh | hh | hh | hh | hh | hh | hh | hh
  · exact mm_a_ok hx hb hd hh hG K
  · exact mm_b_ok hx hb hd hh hG K
  · exact mm_c_ok hx hb hd hh hG K
  · exact mm_d_ok hx hb hd hh hG K
  · exact mm_e_ok hx hb hd hh hG K
  · exact mm_f_ok hx hb hown hts hC t1 hini hd hh hG K
  · exact mm_ld_ok hx hb hd hh hG K
  · exact mm_sw_ok hx hb hd hh hG K
  · exact mm_n_ok hx hb hown hts hamb.2.1 hC t2 hDt t3 t4 hA hRc hRs hd hh hG K
  · exact mm_k_ok hx hb hown hts t5 t6 (fun q hq => hamb.2.2 _ (t7 q hq)) hd hh hG K
  · exact mm_y_ok hx hb hml hown hts t9 hRc hRs hRf hRl hd hh hG K
  · exact mm_x_ok hx hb hml hown hts hgood hstr t9 t10 hA hRc hRs hRf hRl hd hh hG K
  · exact mm_cal_ok hx hb hml hown hts hgood hamb hstr t8 hCs hA hRc hRs hRf hRl hd hh hG K
  · exact hrt i (pc, L, S, h, mc, ms) hd hh a ws tys H locs ls vs hG
end LWK
theorem lw_W_ok {p : Program} {l : Launch} {e : Env} {s : State} {m : MethodId} {below : List Frame} {meth : Method} {c : Code} {D : va_G} {st : Nat → Nat} {b Ln : Nat} {xs : Nat → Int32} {cs : List mm_C} (C0 : lw_At p s m meth c b Ln xs) (hzz : st 900 = b) (hts : ∀ w ∈ ck_TS, w.before #[Value.ref b] s = true) (hamb : ck_amb ck_NM ck_AO ck_SL st s) (hstr : mm_str st (fun q : Nat => s.heap.size ≤ q) s s.heap) (hCs : ∀ co ∈ cs, hh_Met l D st co) {x : mm_s} (hW : lw_W cs Ln xs x) : mm_K p l e room_1 s m #[Value.ref b] below meth c (lw_Z below #[Value.ref b] s) D vwCl ck_dt st (fun q : Nat => s.heap.size ≤ q) 4 0 (fun _ => 0) x := by
  obtain ⟨hx, hb, hr, hml, hown, -, hX, hbl, hlocks, -⟩ := C0
  have hbA : ¬ (fun q : Nat => s.heap.size ≤ q) b := Nat.not_le.mpr hbl
  refine hW _ (fun y N hy K => ?_)
  rcases hy with ⟨i, hd, hs⟩ | hy
  · obtain ⟨pc, L, S, h, mc, ms⟩ := y
    intro a ws tys H locs ls vs hG
    dsimp only at hd hs hG ⊢
    have ev := hG.evs
    subst ev
    have hS := hG.2.2.2.2.2.2.2.1
    unfold lw_scr at hs
    split at hs
    · obtain ⟨rfl, h0, h1, h2⟩ := hs
      have kk := K _ h2 a ws tys H locs ls _ (hG.tl2.psh trivial)
      rw [List.map_cons, List.map_cons]
      show W p l e room_1 s m #[Value.ref b] below meth c H locs mc ms (lw_Z below #[Value.ref b] s) (F0 m pc ls (.int _ :: .ref (st 900) :: _))
      rw [hzz]
      exact va_sld hx hb hX hbl hbA hS (vp_in_iff.mpr ⟨h0, h1⟩) hd kk
    · obtain ⟨rfl, h2⟩ := hs
      have kk := K _ h2 a ws tys H locs ls _ (hG.tl.psh trivial)
      rw [List.map_cons]
      show W p l e room_1 s m #[Value.ref b] below meth c H locs mc ms (lw_Z below #[Value.ref b] s) (F0 m pc ls (.ref (st 900) :: _))
      rw [hzz]
      exact va_slen hx hb hX hbl hbA hS hd kk
    · exact hs.elim
  · refine mm_nx_ok (Ts := ck_TS) (own := R_law) hx hb hml hown hts ck_TSgood hamb hstr ck_okCl ck_okDt ck_okT12 hCs (fun q hq => hq) (fun z => by cases z) rfl rfl rfl rfl (fun i z hd hrr => ?_) hy K
    obtain ⟨pc, L, S, h', mc, ms⟩ := z
    intro a ws tys H locs ls vs hG
    dsimp only at hd hrr hG ⊢
    have ev := hG.evs
    subst ev
    unfold mm_rt at hrr
    split at hrr
    · obtain ⟨-, e1, k1, k2⟩ := hrr
      cases e1
      refine va_forget (fun q hq => hG.2.2.2.2.2.2.2.1.2.2 q hq) ?_
      refine W.widen k1 k2 ?_
      exact lw_ret hx hb hr hlocks hd
    · obtain ⟨-, e1, -⟩ := hrr
      cases e1
    · obtain ⟨-, e1, -⟩ := hrr
      cases e1
    · obtain ⟨-, e1, -⟩ := hrr
      cases e1
    · exact hrr.elim
/-! steps of the law -/
def lw_L (i : Int32) : List (Nat × mm_v) := [(3, mm_I i), (2, mm_A (some 77)), (1, mm_A (some 0)), (0, mm_O 900)]
section LWS
variable {cs : List mm_C} {Ln : Nat} {xs : Nat → Int32} {pc : Nat} {L : List (Nat × mm_v)} {S : List mm_v} {h : mm_h} {k : Nat × Nat} {i : Int32}
theorem lw_al {j : Fin 4} {v : mm_v} (hd : decode code pc = .ok (.aload_n j, 1)) (hv : mm_get L j.val = some v) (hr : mm_rf v = true) (K : lw_W cs Ln xs (pc + 1, L, v :: S, h, k)) : lw_W cs Ln xs (pc, L, S, h, k) := lw_W.of (Or.inr ⟨_, hd, .inl ⟨v, hv, hr, K⟩⟩)
theorem lw_il {j : Fin 4} {v : Int32} (hd : decode code pc = .ok (.iload_n j, 1)) (hv : mm_get L j.val = some (mm_I v)) (K : lw_W cs Ln xs (pc + 1, L, mm_I v :: S, h, k)) : lw_W cs Ln xs (pc, L, S, h, k) := lw_W.of (Or.inr ⟨_, hd, .inl ⟨v, hv, K⟩⟩)
theorem lw_ic {z : Int} (hd : decode code pc = .ok (.iconst z, 1)) (K : lw_W cs Ln xs (pc + 1, L, mm_I (Int32.ofInt z) :: S, h, k)) : lw_W cs Ln xs (pc, L, S, h, k) := lw_W.of (Or.inr ⟨_, hd, .inl K⟩)
theorem lw_bp {z : Int} (hd : decode code pc = .ok (.bipush z, 2)) (K : lw_W cs Ln xs (pc + 2, L, mm_I (Int8.ofInt z).toInt32 :: S, h, k)) : lw_W cs Ln xs (pc, L, S, h, k) := lw_W.of (Or.inr ⟨_, hd, .inl K⟩)
theorem lw_add {x y : Int32} (hd : decode code pc = .ok (.iadd, 1)) (K : lw_W cs Ln xs (pc + 1, L, mm_I (x + y) :: S, h, k)) : lw_W cs Ln xs (pc, L, mm_I y :: mm_I x :: S, h, k) := lw_W.of (Or.inr ⟨_, hd, .inr (.inr (.inl ⟨_, rfl, K⟩))⟩)
theorem lw_sub {x y : Int32} (hd : decode code pc = .ok (.isub, 1)) (K : lw_W cs Ln xs (pc + 1, L, mm_I (x - y) :: S, h, k)) : lw_W cs Ln xs (pc, L, mm_I y :: mm_I x :: S, h, k) := lw_W.of (Or.inr ⟨_, hd, .inr (.inr (.inl ⟨_, rfl, K⟩))⟩)
theorem lw_and {x y : Int32} (hd : decode code pc = .ok (.iand, 1)) (K : lw_W cs Ln xs (pc + 1, L, mm_I (x &&& y) :: S, h, k)) : lw_W cs Ln xs (pc, L, mm_I y :: mm_I x :: S, h, k) := lw_W.of (Or.inr ⟨_, hd, .inr (.inr (.inl ⟨_, rfl, K⟩))⟩)
theorem lw_ild {x : Int32} (hd : decode code pc = .ok (.iaload, 1)) (h0 : 0 ≤ x.toInt) (h1 : x.toInt < (Ln : Int)) (K : lw_W cs Ln xs (pc + 1, L, mm_I (xs x.toInt.toNat) :: S, h, k)) : lw_W cs Ln xs (pc, L, mm_I x :: mm_O 900 :: S, h, k) := lw_W.of (Or.inl ⟨_, hd, rfl, h0, h1, K⟩)
theorem lw_len (hd : decode code pc = .ok (.arraylength, 1)) (K : lw_W cs Ln xs (pc + 1, L, mm_I (Int32.ofNat Ln) :: S, h, k)) : lw_W cs Ln xs (pc, L, mm_O 900 :: S, h, k) := lw_W.of (Or.inl ⟨_, hd, rfl, K⟩)
theorem lw_pop {v : Int32} (hd : decode code pc = .ok (.pop, 1)) (K : lw_W cs Ln xs (pc + 1, L, S, h, k)) : lw_W cs Ln xs (pc, L, mm_I v :: S, h, k) := lw_W.of (Or.inr ⟨_, hd, .inr (.inr (.inr (.inl ⟨rfl, K⟩)))⟩)
theorem lw_dup {v : Option Nat} (hd : decode code pc = .ok (.dup, 1)) (K : lw_W cs Ln xs (pc + 1, L, mm_A v :: mm_A v :: S, h, k)) : lw_W cs Ln xs (pc, L, mm_A v :: S, h, k) := lw_W.of (Or.inr ⟨_, hd, .inr (.inr (.inr (.inl ⟨rfl, K⟩)))⟩)
theorem lw_gt {o : Int} {t : Nat} (hd : decode code pc = .ok (.goto o, 3)) (ht : (pc : Int) + o = t) (K : lw_W cs Ln xs (t, L, S, h, k)) : lw_W cs Ln xs (pc, L, S, h, k) := lw_W.of (Or.inr ⟨_, hd, .inr (.inr (.inr (.inr (.inl ⟨by omega, by rw [show ck_tg pc o = t by unfold ck_tg; omega]; exact K⟩))))⟩)
theorem lw_cmp {q : Jvm.ClassFile.Cond} {x y : Int32} {o : Int} {t : Nat} (hd : decode code pc = .ok (.if_icmp q o, 3)) (ht : (pc : Int) + o = t) (K1 : ck_chold q x y → lw_W cs Ln xs (t, L, S, h, k)) (K2 : ck_chold (ck_cneg q) x y → lw_W cs Ln xs (pc + 3, L, S, h, k)) : lw_W cs Ln xs (pc, L, mm_I y :: mm_I x :: S, h, k) := lw_W.of (Or.inr ⟨_, hd, .inr (.inr (.inr (.inr (.inl ⟨by omega, by rw [show ck_tg pc o = t by unfold ck_tg; omega]; exact K1, K2⟩))))⟩)
theorem lw_as {j : Fin 4} {v : Option Nat} (hd : decode code pc = .ok (.astore_n j, 1)) (K : lw_W cs Ln xs (pc + 1, mm_put L j.val (mm_A v), S, h, k)) : lw_W cs Ln xs (pc, L, mm_A v :: S, h, k) := lw_W.of (Or.inr ⟨_, hd, .inr (.inl ⟨j.isLt, rfl, K⟩)⟩)
theorem lw_is {j : Fin 4} {v : Int32} (hd : decode code pc = .ok (.istore_n j, 1)) (K : lw_W cs Ln xs (pc + 1, mm_put L j.val (mm_I v), S, h, k)) : lw_W cs Ln xs (pc, L, mm_I v :: S, h, k) := lw_W.of (Or.inr ⟨_, hd, .inr (.inl ⟨j.isLt, K⟩)⟩)
theorem lw_inc {v : Int32} {z : Int} (hd : decode code pc = .ok (.iinc 3 z, 3)) (hv : mm_get L 3 = some (mm_I v)) (K : lw_W cs Ln xs (pc + 3, mm_put L 3 (mm_I (v + Int32.ofInt z)), S, h, k)) : lw_W cs Ln xs (pc, L, S, h, k) := lw_W.of (Or.inr ⟨_, hd, .inr (.inl ⟨by decide, v, hv, K⟩)⟩)
theorem lw_new {x c : Nat} {tl : List FieldType} (hd : decode code pc = .ok (.new x, 3)) (hf : ck_T12.2.1.find? (fun q => q.1 == x) = some (x, c)) (ht : ck_dt[c]? = some tl) (ha : tl.all (fun t => (mm_ft t).isSome) = true) (h1 : k.1 + 1 ≤ 600000) (h2 : k.2 + tl.length ≤ 7302250) (K : lw_W cs Ln xs (pc + 3, L, mm_A (some h.1) :: S, mm_new h (.inl (c, tl.length)), k.1 + 1, k.2 + tl.length)) : lw_W cs Ln xs (pc, L, S, h, k) := lw_W.of (Or.inr ⟨_, hd, .inr (.inr (.inr (.inr (.inr (.inr (.inr (.inr (.inl ⟨_, tl, hf, ht, ha, h1, h2, K⟩))))))))⟩)
theorem lw_rt {v : Int32} (hv : v = 1) (hd : decode code pc = .ok (.ireturn, 1)) (h1 : k.1 ≤ 600000) (h2 : k.2 ≤ 7302250) : lw_W cs Ln xs (pc, L, [mm_I v], h, k) := lw_W.of (Or.inr ⟨_, hd, .inr (.inr (.inr (.inr (.inr (.inr (.inr (.inr (.inr (.inr (.inr (.inr (.inr ⟨⟨.boolean, rfl, by rw [hv]; exact narrow_b1⟩, by rw [hv], h1, h2⟩))))))))))))⟩)
theorem lw_cal {ii : Instr × Nat} (xo : Nat × Nat) (q : Nat × Nat × Nat) (M : ck_MT) (co : mm_C) (us S' : List mm_v) (hd : decode code pc = .ok ii) (h1 : ck_inv ii = some xo) (h2 : ck_T12.2.2.2.2.2.2.2.find? (fun q => q.1 == xo.1) = some q) (h3 : q.2.1 < 6 ∧ q.2.1 % 3 = xo.2) (h4 : ck_mts[q.2.2]? = some M) (h5 : co ∈ cs) (h6 : co.1 = q.2.2) (h7 : S = us.reverse ++ S') (h8 : mm_self vwCl M xo.2 us h) (h9 : mm_wd S' ≤ 8) (h10 : co.2.1.1 + 1 ≤ 2048 ∧ 8 + (M.2.2.1 + 11) + co.2.1.2.1 ≤ 84000) (h11 : k.1 + co.2.1.2.2.1 ≤ 600000 ∧ k.2 + co.2.1.2.2.2 ≤ 7302250) (h12 : co.2.2.1 us h)
    (K : ∀ (r : Option mm_v) (h' : mm_h), co.2.2.2 us h r h' → lw_W cs Ln xs (pc + 3, L, r.toList ++ S', h', k.1 + co.2.1.2.2.1, k.2 + co.2.1.2.2.2)) : lw_W cs Ln xs (pc, L, S, h, k) :=
  lw_W.of (Or.inr ⟨_, hd, .inr (.inr (.inr (.inr (.inr (.inr (.inr (.inr (.inr (.inr (.inr (.inr (.inl ⟨xo, q, M, co, us, S', h1, h2, h3.1, h3.2, h4, h5, h6, h7, h8, h9, h10.1, h10.2, h11.1, h11.2, h12, fun r h' a _ _ => K r h' a⟩))))))))))))⟩)
theorem lw_arg {j : Int} (d0 : decode code pc = .ok (.aload_n 0, 1)) (d1 : decode code (pc + 1) = .ok (.iload_n 3, 1)) (d2 : decode code (pc + 1 + 1) = .ok (.iconst j, 1)) (d3 : decode code (pc + 1 + 1 + 1) = .ok (.iadd, 1)) (d4 : decode code (pc + 1 + 1 + 1 + 1) = .ok (.iaload, 1)) (hj : 1 ≤ (Int32.ofInt j).toInt ∧ (Int32.ofInt j).toInt ≤ 6) (hi : 0 ≤ i.toInt ∧ i.toInt + 7 ≤ (Ln : Int) ∧ Ln ≤ 3584) (K : lw_W cs Ln xs (pc + 5, lw_L i, mm_I (xs (i + Int32.ofInt j).toInt.toNat) :: S, h, k)) : lw_W cs Ln xs (pc, lw_L i, S, h, k) := by
  have e : (i + Int32.ofInt j).toInt = i.toInt + (Int32.ofInt j).toInt := ck_addI (by omega) (by omega)
  exact lw_al d0 rfl rfl (lw_il d1 rfl (lw_ic d2 (lw_add d3 (lw_ild d4 (by omega) (by omega) K))))
theorem lw_arg6 (d0 : decode code pc = .ok (.aload_n 0, 1)) (d1 : decode code (pc + 1) = .ok (.iload_n 3, 1)) (d2 : decode code (pc + 1 + 1) = .ok (.bipush 6, 2)) (d3 : decode code (pc + 1 + 1 + 2) = .ok (.iadd, 1)) (d4 : decode code (pc + 1 + 1 + 2 + 1) = .ok (.iaload, 1)) (hi : 0 ≤ i.toInt ∧ i.toInt + 7 ≤ (Ln : Int) ∧ Ln ≤ 3584) (K : lw_W cs Ln xs (pc + 6, lw_L i, mm_I (xs (i + (Int8.ofInt 6).toInt32).toInt.toNat) :: S, h, k)) : lw_W cs Ln xs (pc, lw_L i, S, h, k) := by
  have e6 : (Int8.ofInt 6).toInt32.toInt = 6 := by decide
  have e : (i + (Int8.ofInt 6).toInt32).toInt = i.toInt + (Int8.ofInt 6).toInt32.toInt := ck_addI (by omega) (by omega)
  exact lw_al d0 rfl rfl (lw_il d1 rfl (lw_bp d2 (lw_add d3 (lw_ild d4 (by omega) (by omega) K))))
theorem ab_av_all {h : mm_h} : ∀ vs : List Int32, ab_av h (List.replicate vs.length ck_all) (vs.map mm_I)
  | [] => trivial
  | x :: vs => ⟨⟨x, rfl, ck_i32 x⟩, ab_av_all vs⟩
theorem mm_ints_map : ∀ vs : List Int32, mm_ints (vs.map mm_I) = vs
  | [] => rfl
  | x :: vs => congrArg (x :: ·) (mm_ints_map vs)
/-- a call by a table's contract -/
theorem lw_tab (x mt o : Nat) (M : ck_MT) (co : ab_C) (vs : List Int32) (S' : List mm_v) (hd : decode code pc = .ok (.invokevirtual x, 3)) (hf : ck_T12.2.2.2.2.2.2.2.find? (fun q => q.1 == x) = some (x, 0, mt)) (hM : ck_mts[mt]? = some M) (hmem : ab_m gk_G ck_sh co ∈ cs) (hmt : co.1 = mt) (ha : co.2.1 = 101 ∧ co.2.2.1 = .inr (0, o) :: List.replicate vs.length ck_all) (hn : vs.length = M.2.2.2.2) (ho : o < 101) (hob : ∃ (ob : Nat × Nat) (r : vw_C), ck_sh[o]? = some (.inl ob) ∧ vwCl[ob.1]? = some r ∧ r.1 = M.1.cls) (hS : S = (vs.map mm_I).reverse ++ mm_A (some o) :: S') (hwd : mm_wd S' ≤ 8) (hroom : co.2.2.2.2.2.2.1 + 1 ≤ 2048 ∧ 8 + (M.2.2.1 + 11) + co.2.2.2.2.2.2.2.1 ≤ 84000) (hz : co.2.2.2.2.2.2.2.2 = (0, 0)) (hst : ab_stay lw_X0 co = true) (hnum : co.2.2.2.2.2.1.all ab_isn = true) (hI : iv_I h) (hk : k.1 ≤ 600000 ∧ k.2 ≤ 7302250)
    (K : ∀ (v : Int32) (h' : mm_h), iv_I h' → (∃ o' ∈ co.2.2.2.2.2.1, ab_rv h' o'.1 (some (mm_I v)) ∧ ck_iv o'.2.1 vs) → lw_W cs Ln xs (pc + 3, L, mm_I v :: S', h', k)) : lw_W cs Ln xs (pc, L, S, h, k) := by
  obtain ⟨ob, r, s1, s2, s3⟩ := hob
  have e1 : (ab_m gk_G ck_sh co).2.1.2.2.1 = 0 := (congrArg Prod.fst hz : co.2.2.2.2.2.2.2.2.1 = 0)
  have e2 : (ab_m gk_G ck_sh co).2.1.2.2.2 = 0 := (congrArg Prod.snd hz : co.2.2.2.2.2.2.2.2.2 = 0)
  refine lw_cal (x, 0) (x, 0, mt) M (ab_m gk_G ck_sh co) (mm_A (some o) :: vs.map mm_I) S' hd rfl hf ⟨(by decide : 0 < 6), rfl⟩ hM hmem hmt (by rw [hS, List.reverse_cons, List.append_assoc]; rfl) ⟨by rw [List.length_map]; exact hn, hI.1.l ho, ob, r, hI.1.s ho s1, s2, s3⟩ hwd hroom ⟨by rw [e1]; exact hk.1, by rw [e2]; exact hk.2⟩ ⟨by rw [ha.1]; exact hI.1, by rw [ha.2]; exact ⟨rfl, ab_av_all vs⟩, ab_stay_pre hst hI.2⟩ (fun r h' hp => ?_)
  obtain ⟨hI', o', ho', hr, hiv⟩ := iv_call hst hI hp
  obtain ⟨v, rfl⟩ := ab_rv_num hnum ho' hr
  have e3 : mm_ints (mm_A (some o) :: vs.map mm_I) = vs := mm_ints_map vs
  rw [e3] at hiv
  rw [e1, e2]
  exact K v h' hI' ⟨o', ho', hr, hiv⟩
/-- a call by a contract made by hand -/
theorem lw_han (x mt o : Nat) (M : ck_MT) (co : mm_C) (vs : List Int32) (S' : List mm_v) (hd : decode code pc = .ok (.invokevirtual x, 3)) (hf : ck_T12.2.2.2.2.2.2.2.find? (fun q => q.1 == x) = some (x, 0, mt)) (hM : ck_mts[mt]? = some M) (hmem : co ∈ cs) (hmt : co.1 = mt) (hn : vs.length = M.2.2.2.2) (ho : o < 101) (hob : ∃ (ob : Nat × Nat) (r : vw_C), ck_sh[o]? = some (.inl ob) ∧ vwCl[ob.1]? = some r ∧ r.1 = M.1.cls) (hS : S = (vs.map mm_I).reverse ++ mm_A (some o) :: S') (hwd : mm_wd S' ≤ 8) (hroom : co.2.1.1 + 1 ≤ 2048 ∧ 8 + (M.2.2.1 + 11) + co.2.1.2.1 ≤ 84000) (hI : iv_I h) (hk : k.1 + co.2.1.2.2.1 ≤ 600000 ∧ k.2 + co.2.1.2.2.2 ≤ 7302250) (hpre : co.2.2.1 (mm_A (some o) :: vs.map mm_I) h) (hpost : ∀ r h', co.2.2.2 (mm_A (some o) :: vs.map mm_I) h r h' → iv_I h' ∧ ∃ v : Int32, r = some (mm_I v))
    (K : ∀ (v : Int32) (h' : mm_h), iv_I h' → co.2.2.2 (mm_A (some o) :: vs.map mm_I) h (some (mm_I v)) h' → lw_W cs Ln xs (pc + 3, L, mm_I v :: S', h', k.1 + co.2.1.2.2.1, k.2 + co.2.1.2.2.2)) : lw_W cs Ln xs (pc, L, S, h, k) := by
  obtain ⟨ob, r, s1, s2, s3⟩ := hob
  refine lw_cal (x, 0) (x, 0, mt) M co (mm_A (some o) :: vs.map mm_I) S' hd rfl hf ⟨(by decide : 0 < 6), rfl⟩ hM hmem hmt (by rw [hS, List.reverse_cons, List.append_assoc]; rfl) ⟨by rw [List.length_map]; exact hn, hI.1.l ho, ob, r, hI.1.s ho s1, s2, s3⟩ hwd hroom hk hpre (fun r h' hp => ?_)
  obtain ⟨hI', v, rfl⟩ := hpost r h' hp
  exact K v h' hI' hp
end LWS
