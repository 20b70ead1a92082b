/-! THE LAW'S RUN BY A TABLE OF ITS INSTRUCTIONS: the same steps, the instruction looked up in a list that was decoded once -/
def ck_stepI (cl : List vw_C) (mts : List ck_MT) (sh : List ck_Sh) (T : ck_T) (cs : List ck_C) (wr : List (Nat × Nat)) (ini : Bool) (nL CM SM FM LM : Nat) (rt : Instr × Nat → List ck_I → List ck_V → ck_D → Nat × Nat × Nat → Bool) (i : Instr × Nat) (pc : Nat) (I : List ck_I) (L : List (Nat × ck_V)) (S : List ck_V) (X : ck_D) (k : Nat × Nat × Nat) : Option (List (Nat × ck_S)) :=
  match ck_a pc i I L S X k with
    | some xs => some xs
    | none => match ck_b nL pc i I L S X k with
      | some xs => some xs
      | none => match ck_c pc i I L S X k with
        | some xs => some xs
        | none => match ck_d pc i I L S X k with
          | some xs => some xs
          | none => match ck_e pc i I L S X k with
            | some xs => some xs
            | none => match ck_f T.1 sh wr ini pc i I L S X k with
              | some xs => some xs
              | none => match ck_ld sh pc i I L S X k with
                | some xs => some xs
                | none => match ck_sr cl sh wr pc i I L S X k with
                  | some xs => some xs
                  | none => match ck_cal cl mts T.2.2.2.2.2.2.2.2 cs sh wr CM SM FM LM pc i I L S X k with
                    | some xs => some xs
                    | none => match ck_y T.2.2.2.2.2.2.2.2 sh wr CM SM FM LM pc i I L S X k with
                      | some xs => some xs
                      | none => match ck_n T.2.1 T.2.2.1 T.2.2.2.1 T.2.2.2.2.1 T.2.2.2.2.2.1 sh CM SM pc i I L S X k with
                        | some xs => some xs
                        | none => match ck_ldc T.2.2.2.2.2.2.1 T.2.2.2.2.2.2.2.1 pc i I L S X k with
                          | some xs => some xs
                          | none => if rt i I S X k = true then some [] else none
theorem ck_step_eq {cl : List vw_C} {mts : List ck_MT} {sh : List ck_Sh} {T : ck_T} {cs : List ck_C} {wr : List (Nat × Nat)} {ini : Bool} {nL CM SM FM LM : Nat} {rt : Instr × Nat → List ck_I → List ck_V → ck_D → Nat × Nat × Nat → Bool} {cc : ByteArray} {i : Instr × Nat} {pc : Nat} {I : List ck_I} {L : List (Nat × ck_V)} {S : List ck_V} {X : ck_D} {k : Nat × Nat × Nat} (hd : decode cc pc = .ok i) : ck_step cl mts sh T cs wr ini nL CM SM FM LM rt cc pc I L S X k = ck_stepI cl mts sh T cs wr ini nL CM SM FM LM rt i pc I L S X k := by
  unfold ck_step
  rw [hd]
  rfl
def ck_at (dt : List (Nat × Instr × Nat)) (pc : Nat) : Option (Instr × Nat) := (dt.find? (fun q => q.1 == pc)).map Prod.snd
theorem ck_at_ok {dt : List (Nat × Instr × Nat)} {pc : Nat} {i : Instr × Nat} (hdt : ∀ q ∈ dt, decode code q.1 = .ok q.2) (h : ck_at dt pc = some i) : decode code pc = .ok i := by
  unfold ck_at at h
  cases hq : dt.find? (fun q => q.1 == pc) with
  | none => rw [hq] at h; cases h
  | some q =>
    rw [hq] at h
    have h1 := hdt q (List.mem_of_find?_eq_some hq)
    have h2 := List.find?_some hq
    have h3 : q.1 = pc := by simpa using h2
    have h4 : q.2 = i := Option.some.inj h
    rw [h3, h4] at h1
    exact h1
def ck_stepD (dt : List (Nat × Instr × Nat)) (cl : List vw_C) (mts : List ck_MT) (sh : List ck_Sh) (T : ck_T) (cs : List ck_C) (wr : List (Nat × Nat)) (zz n : Nat) (pc : Nat) (I : List ck_I) (L : List (Nat × ck_V)) (S : List ck_V) (X : ck_D) (k : Nat × Nat × Nat) : Option (List (Nat × ck_S)) := match ck_at dt pc with
  | some i => match ck_scr zz n pc i I L S X k with
    | some xs => some xs
    | none => ck_stepI cl mts sh T cs wr false 4 600000 7302250 2048 84000 ck_rtL i pc I L S X k
  | none => none
theorem ck_stepD_eq {dt : List (Nat × Instr × Nat)} {cl : List vw_C} {mts : List ck_MT} {sh : List ck_Sh} {T : ck_T} {cs : List ck_C} {wr : List (Nat × Nat)} {zz n pc : Nat} {I : List ck_I} {L : List (Nat × ck_V)} {S : List ck_V} {X : ck_D} {k : Nat × Nat × Nat} {xs : List (Nat × ck_S)} (hdt : ∀ q ∈ dt, decode code q.1 = .ok q.2) (h : ck_stepD dt cl mts sh T cs wr zz n pc I L S X k = some xs) : ck_stepL cl mts sh T cs wr zz n pc I L S X k = some xs := by
  unfold ck_stepD at h
  split at h
  · rename_i i hi
    have hd := ck_at_ok hdt hi
    unfold ck_stepL
    rw [hd]
    dsimp only
    rw [ck_step_eq hd]
    exact h
  · cases h
section CKV
variable {p : Program} {l : Launch} {e : Env} {s : State} {m : MethodId} {below : List Frame} {meth : Method} {c : Code}
variable {D : va_G} {cl : List vw_C} {st : Nat → Nat} {sh : List ck_Sh} {wr : List (Nat × Nat)} {ws0 : va_W}
variable {Ts : List Cond} {AO : List String} {NM : List (String × Nat × MethodName × String)} {SL : List (String × Nat × Nat)} {mts : List ck_MT}
theorem ck_stepD_ok {dt : List (Nat × Instr × Nat)} (hdt : ∀ q ∈ dt, decode code q.1 = .ok q.2) {T : ck_T} {cs : List ck_C} {b Ln zz n0 : Nat} {xsc : Nat → Int32} {ν0 : Nat → Int} (C0 : lw_At p s m meth c b Ln xsc) (hzz : st zz = b) (hν0 : ∀ j, j < n0 → ν0 j = (xsc j).toInt) (hLn : Ln ≤ n0) (hts : ∀ w ∈ Ts, w.before #[Value.ref b] s = true) (hgood : GoodIn Ts Ts) (hamb : ck_amb NM AO SL st s) (hC : ck_okC cl Ts) (hT : ck_okT cl Ts NM AO SL mts R_law T) (hCs : ∀ co ∈ cs, ck_Met l Ts mts D cl NM AO SL st sh co)
    (n pc : Nat) (I : List ck_I) (L : List (Nat × ck_V)) (S : List ck_V) (X : ck_D) (nc mc ms : Nat) (xs : List (Nat × ck_S)) (ν : Nat → Int) (ws : va_W) (tys : List (ClassId × FieldType)) (H : Heap) (locs : List Loc) (ls : Array Slot) (vs : List Value) (h : ck_stepD dt cl mts sh T cs wr zz Ln pc I L S X (nc, mc, ms) = some xs) (hn : n ≤ I.length) (hν : ∀ j, j < n0 → ν j = ν0 j) (hG : ck_G D cl st sh (fun q : Nat => s.heap.size ≤ q) s 4 wr ws0 I L S X nc ν ws tys H locs ls vs) (K : ∀ x ∈ xs, ck_N p l e room_1 s m #[Value.ref b] below meth c (lw_Z below #[Value.ref b] s) D cl st sh (fun q : Nat => s.heap.size ≤ q) 4 wr ws0 n ν x) : W p l e room_1 s m #[Value.ref b] below meth c H locs mc ms (lw_Z below #[Value.ref b] s) (F0 m pc ls vs) :=
  ck_stepL_ok C0 hzz hν0 hLn hts hgood hamb hC hT hCs n pc I L S X nc mc ms xs ν ws tys H locs ls vs (ck_stepD_eq hdt h) hn hν hG K
end CKV
