/-! WALKS BY HAND OVER THE PURE MACHINE: several steps in one go -/
def mm_grp (ml : List (Nat × Nat × Nat)) (i : Instr) : Nat := match i with
  | .iconst _ => 0
  | .bipush _ => 0
  | .sipush _ => 0
  | .lconst _ => 0
  | .aconst_null => 0
  | .iload_n _ => 0
  | .iload _ => 0
  | .lload_n _ => 0
  | .lload _ => 0
  | .aload_n _ => 0
  | .aload _ => 0
  | .istore_n _ => 1
  | .istore _ => 1
  | .lstore_n _ => 1
  | .lstore _ => 1
  | .astore_n _ => 1
  | .astore _ => 1
  | .iinc _ _ => 1
  | .dup => 3
  | .pop => 3
  | .dup_x1 => 3
  | .dup2 => 3
  | .if_icmp _ _ => 4
  | .ifCond _ _ => 4
  | .goto _ => 4
  | .ifnull _ => 4
  | .ifnonnull _ => 4
  | .tableswitch _ _ _ _ => 4
  | .getfield _ => 5
  | .putfield _ => 5
  | .iaload => 6
  | .baload => 6
  | .aaload => 6
  | .laload => 6
  | .arraylength => 6
  | .iastore => 7
  | .bastore => 7
  | .lastore => 7
  | .aastore => 7
  | .new _ => 8
  | .newarray _ => 8
  | .anewarray _ => 8
  | .ldc _ => 9
  | .ldc_w _ => 9
  | .ldc2_w _ => 9
  | .ireturn => 13
  | .lreturn => 13
  | .areturn => 13
  | .return_ => 13
  | .invokevirtual _ => 12
  | .invokestatic x => match ml.find? (fun q => q.1 == x) with
    | some q => if q.2.1 < 6 then 12 else if q.2.1 = 8 ∨ q.2.1 = 9 then 11 else 10
    | none => 12
  | .invokespecial x => match ml.find? (fun q => q.1 == x) with
    | some q => if q.2.1 < 6 then 12 else 10
    | none => 12
  | _ => 2
theorem mm_f0 : (0 : Fin 4).val = 0 := rfl
theorem mm_f1 : (1 : Fin 4).val = 1 := rfl
theorem mm_f2 : (2 : Fin 4).val = 2 := rfl
theorem mm_f3 : (3 : Fin 4).val = 3 := rfl
section MMV
variable {cc : ByteArray} {cl : List vw_C} {dt : List (List FieldType)} {nL : Nat} {mts : List ck_MT}
def mm_one (cl : List vw_C) (dt : List (List FieldType)) (mts : List ck_MT) (T : mm_T) (cs : List mm_C) (ini : Bool) (nL CM SM FM LM : Nat) (ret : Option FieldType) (Rt : Option mm_v → mm_h → Nat × Nat → Prop) (i : Instr × Nat) (x : mm_s) (N : mm_s → Prop) : Prop := match mm_grp T.2.2.2.2.2.2.2 i.1 with
  | 0 => mm_a x.1 i x.2.1 x.2.2.1 x.2.2.2.1 x.2.2.2.2 N
  | 1 => mm_b nL x.1 i x.2.1 x.2.2.1 x.2.2.2.1 x.2.2.2.2 N
  | 2 => mm_c x.1 i x.2.1 x.2.2.1 x.2.2.2.1 x.2.2.2.2 N
  | 3 => mm_d x.1 i x.2.1 x.2.2.1 x.2.2.2.1 x.2.2.2.2 N
  | 4 => mm_e x.1 i x.2.1 x.2.2.1 x.2.2.2.1 x.2.2.2.2 N
  | 5 => mm_f T.1 dt ini x.1 i x.2.1 x.2.2.1 x.2.2.2.1 x.2.2.2.2 N
  | 6 => mm_ld x.1 i x.2.1 x.2.2.1 x.2.2.2.1 x.2.2.2.2 N
  | 7 => mm_sw cl x.1 i x.2.1 x.2.2.1 x.2.2.2.1 x.2.2.2.2 N
  | 8 => mm_n T.2.1 dt T.2.2.1 T.2.2.2.1 CM SM x.1 i x.2.1 x.2.2.1 x.2.2.2.1 x.2.2.2.2 N
  | 9 => mm_k T.2.2.2.2.1 T.2.2.2.2.2.1 T.2.2.2.2.2.2.1 x.1 i x.2.1 x.2.2.1 x.2.2.2.1 x.2.2.2.2 N
  | 10 => mm_y T.2.2.2.2.2.2.2 CM SM FM LM x.1 i x.2.1 x.2.2.1 x.2.2.2.1 x.2.2.2.2 N
  | 11 => mm_x T.2.2.2.2.2.2.2 CM SM FM LM x.1 i x.2.1 x.2.2.1 x.2.2.2.1 x.2.2.2.2 N
  | 12 => mm_cal cl mts T.2.2.2.2.2.2.2 cs CM SM FM LM x.1 i x.2.1 x.2.2.1 x.2.2.2.1 x.2.2.2.2 N
  | _ => mm_rt ret Rt i x.2.2.1 x.2.2.2.1 x.2.2.2.2
theorem mm_one_nx {T : mm_T} {cs : List mm_C} {ini : Bool} {CM SM FM LM : Nat} {ret : Option FieldType} {Rt : Option mm_v → mm_h → Nat × Nat → Prop} {i : Instr × Nat} {x : mm_s} {N : mm_s → Prop} (hd : decode cc x.1 = .ok i) (h : mm_one cl dt mts T cs ini nL CM SM FM LM ret Rt i x N) : mm_nx cl dt mts T cs ini nL CM SM FM LM cc ret Rt x N := by
  refine ⟨i, hd, ?_⟩
  unfold mm_one at h
  split at h
  · exact .inl h
  · exact .inr (.inl h)
  · exact .inr (.inr (.inl h))
  · exact .inr (.inr (.inr (.inl h)))
  · exact .inr (.inr (.inr (.inr (.inl h))))
  · exact .inr (.inr (.inr (.inr (.inr (.inl h)))))
  · exact .inr (.inr (.inr (.inr (.inr (.inr (.inl h))))))
  · exact .inr (.inr (.inr (.inr (.inr (.inr (.inr (.inl h)))))))
  · exact .inr (.inr (.inr (.inr (.inr (.inr (.inr (.inr (.inl h))))))))
  · exact .inr (.inr (.inr (.inr (.inr (.inr (.inr (.inr (.inr (.inl h)))))))))
  · exact .inr (.inr (.inr (.inr (.inr (.inr (.inr (.inr (.inr (.inr (.inl h))))))))))
  · exact .inr (.inr (.inr (.inr (.inr (.inr (.inr (.inr (.inr (.inr (.inr (.inl h)))))))))))
  · exact .inr (.inr (.inr (.inr (.inr (.inr (.inr (.inr (.inr (.inr (.inr (.inr (.inl h))))))))))))
  · exact .inr (.inr (.inr (.inr (.inr (.inr (.inr (.inr (.inr (.inr (.inr (.inr (.inr h))))))))))))
def mm_nn2 (stops : List Nat) (N M : mm_s → Prop) (z : mm_s) : Prop := match stops.elem z.1 with
  | true => N z
  | false => M z
theorem mm_nn2_f {stops : List Nat} {N M : mm_s → Prop} {pc : Nat} {y : List (Nat × mm_v) × List mm_v × mm_h × Nat × Nat} (h : stops.elem pc = false) : mm_nn2 stops N M (pc, y) = M (pc, y) := by unfold mm_nn2; rw [h]
theorem mm_nn2_t {stops : List Nat} {N M : mm_s → Prop} {pc : Nat} {y : List (Nat × mm_v) × List mm_v × mm_h × Nat × Nat} (h : stops.elem pc = true) : mm_nn2 stops N M (pc, y) = N (pc, y) := by unfold mm_nn2; rw [h]
def mm_go (cl : List vw_C) (dt : List (List FieldType)) (mts : List ck_MT) (T : mm_T) (cs : List mm_C) (ini : Bool) (nL CM SM FM LM : Nat) (cc : ByteArray) (ret : Option FieldType) (Rt : Option mm_v → mm_h → Nat × Nat → Prop) (stops : List Nat) (N : mm_s → Prop) : Nat → mm_s → Prop
  | 0, x => N x
  | n + 1, x => match decode cc x.1 with
    | .ok i => mm_one cl dt mts T cs ini nL CM SM FM LM ret Rt i x (fun z => match stops.elem z.1 with
      | true => N z
      | false => mm_go cl dt mts T cs ini nL CM SM FM LM cc ret Rt stops N n z)
    | .error _ => False
theorem mm_go_ok {T : mm_T} {cs : List mm_C} {ini : Bool} {CM SM FM LM : Nat} {ret : Option FieldType} {Rt : Option mm_v → mm_h → Nat × Nat → Prop} {N : mm_s → Prop} (stops : List Nat) (hN : ∀ z, N z → mm_W cl dt mts T cs ini nL CM SM FM LM cc ret Rt z) : ∀ (n : Nat) (x : mm_s), mm_go cl dt mts T cs ini nL CM SM FM LM cc ret Rt stops N n x → mm_W cl dt mts T cs ini nL CM SM FM LM cc ret Rt x
  | 0, x, h => hN x h
  | n + 1, x, h => by
    unfold mm_go at h
    split at h
    · rename_i i hd
      refine fun P hP => hP x _ (mm_one_nx hd h) (fun z hz => ?_)
      split at hz
      · exact hN z hz P hP
      · exact mm_go_ok stops hN n z hz P hP
    · exact h.elim
theorem mm_go_s {T : mm_T} {cs : List mm_C} {ini : Bool} {CM SM FM LM : Nat} {ret : Option FieldType} {Rt : Option mm_v → mm_h → Nat × Nat → Prop} {N : mm_s → Prop} {stops : List Nat} {n pc : Nat} {L : List (Nat × mm_v)} {S : List mm_v} {h : mm_h} {k : Nat × Nat} {i : Instr × Nat} (hd : decode cc pc = .ok i) : mm_go cl dt mts T cs ini nL CM SM FM LM cc ret Rt stops N (n + 1) (pc, L, S, h, k) = mm_one cl dt mts T cs ini nL CM SM FM LM ret Rt i (pc, L, S, h, k) (mm_nn2 stops N (mm_go cl dt mts T cs ini nL CM SM FM LM cc ret Rt stops N n)) := by
  show (match decode cc pc with
    | .ok i => mm_one cl dt mts T cs ini nL CM SM FM LM ret Rt i (pc, L, S, h, k) (fun z => match stops.elem z.1 with
      | true => N z
      | false => mm_go cl dt mts T cs ini nL CM SM FM LM cc ret Rt stops N n z)
    | .error _ => False) = _
  rw [hd]
  rfl
end MMV
