/-! THE TABLE RUN, 3: branches, fields, rows -/
section CKB
variable {p : Program} {l : Launch} {e : Env} {R : Room} {s : State} {m : MethodId} {args : Array Value} {below : List Frame} {meth : Method} {c : Code} {Q : State → Prop}
variable {cc : ByteArray} {D : va_G} {cl : List vw_C} {st : Nat → Nat} {sh : List ck_Sh} {A : Nat → Prop} {nL : Nat} {wr : List (Nat × Nat)} {ws0 : va_W}
variable {I I' : List ck_I} {L : List (Nat × ck_V)} {S S' : List ck_V} {X : ck_D} {nc mc ms n : Nat} {ν ν' : Nat → Int} {ws : va_W} {tys : List (ClassId × FieldType)} {H : Heap} {locs : List Loc} {ls : Array Slot} {vs vs' : List Value} {pc : Nat}
def ck_cref (o : Jvm.ClassFile.Cond) (I : List ck_I) (f g : ck_L) : Option (List ck_I) := match o with
  | .eq => ck_eq2 I f g
  | .ne => ck_ne2 I f g
  | .lt => ck_lt2 I f g
  | .ge => ck_le2 I g f
  | .gt => ck_lt2 I g f
  | .le => ck_le2 I f g
def ck_cneg (o : Jvm.ClassFile.Cond) : Jvm.ClassFile.Cond := match o with
  | .eq => .ne
  | .ne => .eq
  | .lt => .ge
  | .ge => .lt
  | .gt => .le
  | .le => .gt
def ck_chold (o : Jvm.ClassFile.Cond) (x y : Int32) : Prop := match o with
  | .eq => x.toInt = y.toInt
  | .ne => x.toInt ≠ y.toInt
  | .lt => x.toInt < y.toInt
  | .ge => y.toInt ≤ x.toInt
  | .gt => y.toInt < x.toInt
  | .le => x.toInt ≤ y.toInt
theorem ck_cref_ok {o : Jvm.ClassFile.Cond} {f g : ck_L} {x y : Int32} (h : ck_gi ν I) (hx : x.toInt = ck_ev ν f) (hy : y.toInt = ck_ev ν g) (hc : ck_chold o x y) : ∃ I', ck_cref o I f g = some I' ∧ ck_gi ν I' ∧ I'.length = I.length := by
  cases o
  · exact ck_eq2_ok h hx hy hc
  · exact ck_ne2_ok h hx hy hc
  · exact ck_lt2_ok h hx hy hc
  · exact ck_le2_ok h hy hx hc
  · exact ck_lt2_ok h hy hx hc
  · exact ck_le2_ok h hx hy hc
theorem ck_icmp_row {o : Jvm.ClassFile.Cond} {off : Int} {tgt : Nat} {x y : Int32} (hx : p.tables.exec = Jvm.exec) (hb : c.code = cc) (hd : decode cc pc = .ok (.if_icmp o off, 3)) (ht : (pc : Int) + off = (tgt : Int))
    (kt : ck_chold o x y → W p l e R s m args below meth c H locs mc ms Q (F0 m tgt ls vs)) (kf : ck_chold (ck_cneg o) x y → W p l e R s m args below meth c H locs mc ms Q (F0 m (pc + 3) ls vs)) : W p l e R s m args below meth c H locs mc ms Q (F0 m pc ls (.int y :: .int x :: vs)) := by
  cases o
  · exact lv_icmp_eq hx hb hd ht (fun q => kt (by rw [q]; exact rfl)) (fun q => kf (fun z => q (Int32.toInt_inj.mp z)))
  · exact lv_icmp_ne hx hb hd ht (fun q => kt (fun z => q (Int32.toInt_inj.mp z))) (fun q => kf (by rw [q]; exact rfl))
  · exact lv_icmp_lt hx hb hd ht (fun q => kt (Int32.lt_iff_toInt_lt.mp q)) (fun q => kf (Int.not_lt.mp (fun z => q (Int32.lt_iff_toInt_lt.mpr z))))
  · exact lv_icmp_ge hx hb hd ht (fun q => kt (Int32.le_iff_toInt_le.mp q)) (fun q => kf (Int.not_le.mp (fun z => q (Int32.le_iff_toInt_le.mpr z))))
  · exact lv_icmp_gt hx hb hd ht (fun q => kt (Int32.lt_iff_toInt_lt.mp q)) (fun q => kf (Int.not_lt.mp (fun z => q (Int32.lt_iff_toInt_lt.mpr z))))
  · exact lv_icmp_le hx hb hd ht (fun q => kt (Int32.le_iff_toInt_le.mp q)) (fun q => kf (Int.not_le.mp (fun z => q (Int32.le_iff_toInt_le.mpr z))))
theorem ck_if_row {o : Jvm.ClassFile.Cond} {off : Int} {tgt : Nat} {x : Int32} (hx : p.tables.exec = Jvm.exec) (hb : c.code = cc) (hd : decode cc pc = .ok (.ifCond o off, 3)) (ht : (pc : Int) + off = (tgt : Int))
    (kt : ck_chold o x 0 → W p l e R s m args below meth c H locs mc ms Q (F0 m tgt ls vs)) (kf : ck_chold (ck_cneg o) x 0 → W p l e R s m args below meth c H locs mc ms Q (F0 m (pc + 3) ls vs)) : W p l e R s m args below meth c H locs mc ms Q (F0 m pc ls (.int x :: vs)) := by
  cases o
  · exact lv_if_eq hx hb hd ht (fun q => kt (by rw [q]; exact rfl)) (fun q => kf (fun z => q (Int32.toInt_inj.mp z)))
  · exact lv_if_ne hx hb hd ht (fun q => kt (fun z => q (Int32.toInt_inj.mp z))) (fun q => kf (by rw [q]; exact rfl))
  · exact lv_if_lt hx hb hd ht (fun q => kt (Int32.lt_iff_toInt_lt.mp q)) (fun q => kf (Int.not_lt.mp (fun z => q (Int32.lt_iff_toInt_lt.mpr z))))
  · exact lv_if_ge hx hb hd ht (fun q => kt (Int32.le_iff_toInt_le.mp q)) (fun q => kf (Int.not_le.mp (fun z => q (Int32.le_iff_toInt_le.mpr z))))
  · exact lv_if_gt hx hb hd ht (fun q => kt (Int32.lt_iff_toInt_lt.mp q)) (fun q => kf (Int.not_lt.mp (fun z => q (Int32.lt_iff_toInt_lt.mpr z))))
  · exact lv_if_le hx hb hd ht (fun q => kt (Int32.le_iff_toInt_le.mp q)) (fun q => kf (Int.not_le.mp (fun z => q (Int32.le_iff_toInt_le.mpr z))))
def ck_br (J : Option (List ck_I)) (t : Nat) (L : List (Nat × ck_V)) (S : List ck_V) (X : ck_D) (k : Nat × Nat × Nat) : List (Nat × ck_S) := match J with
  | some I => [(t, (I, L, S, X, k))]
  | none => []
theorem ck_br_ok {J : Option (List ck_I)} {t : Nat} (hG : ck_G D cl st sh A s nL wr ws0 I L S X nc ν ws tys H locs ls vs) (hJ : ∃ I', J = some I' ∧ ck_gi ν I' ∧ I'.length = I.length)
    (K : ∀ x ∈ ck_br J t L S X (nc, mc, ms), ck_N p l e R s m args below meth c Q D cl st sh A nL wr ws0 n ν x) : W p l e R s m args below meth c H locs mc ms Q (F0 m t ls vs) := by
  obtain ⟨I', rfl, h1, h2⟩ := hJ
  exact K _ List.mem_cons_self ν ws tys H locs ls vs (fun _ _ => rfl) (hG.cut h2 h1)
def ck_tg (pc : Nat) (off : Int) : Nat := ((pc : Int) + off).toNat
theorem ck_tg_ok {pc : Nat} {off : Int} (h : 0 ≤ (pc : Int) + off) : (pc : Int) + off = (ck_tg pc off : Int) := by unfold ck_tg; omega
def ck_sw (pc : Nat) (lo : Int) (I : List ck_I) (f : ck_L) (L : List (Nat × ck_V)) (S : List ck_V) (X : ck_D) (k : Nat × Nat × Nat) : Nat → List Int → List (Nat × ck_S)
  | _, [] => []
  | j, o :: os => ck_br ((ck_ge I f (lo + j)).bind fun J => ck_le J f (lo + j)) (ck_tg pc o) L S X k ++ ck_sw pc lo I f L S X k (j + 1) os
theorem ck_sw_in {lo : Int} {f : ck_L} {k : Nat × Nat × Nat} {o : Int} : ∀ (os : List Int) (b j : Nat), os[j]? = some o → ∀ x, x ∈ ck_br ((ck_ge I f (lo + ((b + j : Nat) : Int))).bind fun J => ck_le J f (lo + ((b + j : Nat) : Int))) (ck_tg pc o) L S X k → x ∈ ck_sw pc lo I f L S X k b os
  | [], _, _, h, _, _ => by simp at h
  | a :: os, b, 0, h, x, hx => by
    have e : a = o := by simpa using h
    subst e
    exact List.mem_append_left _ hx
  | a :: os, b, j + 1, h, x, hx => by
    refine List.mem_append_right _ (ck_sw_in os (b + 1) j (by simpa using h) x ?_)
    have e : b + 1 + j = b + (j + 1) := by omega
    rw [e]; exact hx
def ck_e (pc : Nat) (i : Instr × Nat) (I : List ck_I) (L : List (Nat × ck_V)) (S : List ck_V) (X : ck_D) (k : Nat × Nat × Nat) : Option (List (Nat × ck_S)) := match i, S with
  | (.if_icmp o off, 3), .inl g :: .inl f :: S => if 0 ≤ (pc : Int) + off then some (ck_br (ck_cref o I f g) (ck_tg pc off) L S X k ++ ck_br (ck_cref (ck_cneg o) I f g) (pc + 3) L S X k) else none
  | (.ifCond o off, 3), .inl f :: S => if 0 ≤ (pc : Int) + off then some (ck_br (ck_cref o I f (ck_k 0)) (ck_tg pc off) L S X k ++ ck_br (ck_cref (ck_cneg o) I f (ck_k 0)) (pc + 3) L S X k) else none
  | (.goto off, 3), S => if 0 ≤ (pc : Int) + off then some [(ck_tg pc off, (I, L, S, X, k))] else none
  | (.ifnull off, 3), .inr (1, _) :: S => if 0 ≤ (pc : Int) + off then some [(ck_tg pc off, (I, L, S, X, k))] else none
  | (.ifnull _, 3), .inr (0, _) :: S => some [(pc + 3, (I, L, S, X, k))]
  | (.ifnonnull _, 3), .inr (1, _) :: S => some [(pc + 3, (I, L, S, X, k))]
  | (.ifnonnull off, 3), .inr (0, _) :: S => if 0 ≤ (pc : Int) + off then some [(ck_tg pc off, (I, L, S, X, k))] else none
  | (.tableswitch dflt lo hi offs, _), .inl f :: S => if (offs.toList.length : Int) = hi - lo + 1 ∧ 0 ≤ (pc : Int) + dflt ∧ offs.toList.all (fun o => decide (0 ≤ (pc : Int) + o)) = true then some (ck_br (ck_le I f (lo - 1)) (ck_tg pc dflt) L S X k ++ (ck_br (ck_ge I f (hi + 1)) (ck_tg pc dflt) L S X k ++ ck_sw pc lo I f L S X k 0 offs.toList)) else none
  | _, _ => none
theorem ck_e_ok {i : Instr × Nat} {xs : List (Nat × ck_S)} (hx : p.tables.exec = Jvm.exec) (hb : c.code = cc) (hd : decode cc pc = .ok i) (h : ck_e pc i I L S X (nc, mc, ms) = some xs) (hG : ck_G D cl st sh A s nL wr ws0 I L S X nc ν ws tys H locs ls vs)
    (K : ∀ x ∈ xs, ck_N p l e R s m args below meth c Q D cl st sh A nL wr ws0 n ν x) : W p l e R s m args below meth c H locs mc ms Q (F0 m pc ls vs) := by
  unfold ck_e at h
  split at h
  · split at h
    · rename_i ho
      cases h
      obtain ⟨v, vs', rfl, ⟨w1, y, rfl, e1⟩, h2⟩ := hG.gs.pop
      obtain ⟨v, vs', rfl, ⟨w2, x, rfl, e2⟩, h4⟩ := h2.pop
      exact ck_icmp_row hx hb hd (ck_tg_ok ho) (fun q => ck_br_ok (hG.stk h4) (ck_cref_ok hG.gi e2 e1 q) (fun x hx => K x (List.mem_append_left _ hx))) (fun q => ck_br_ok (hG.stk h4) (ck_cref_ok hG.gi e2 e1 q) (fun x hx => K x (List.mem_append_right _ hx)))
    · cases h
  · split at h
    · rename_i ho
      cases h
      obtain ⟨v, vs', rfl, ⟨w1, x, rfl, e1⟩, h2⟩ := hG.gs.pop
      have e0 : (0 : Int32).toInt = ck_ev ν (ck_k 0) := by simp [ck_ev, ck_k]
      exact ck_if_row hx hb hd (ck_tg_ok ho) (fun q => ck_br_ok (hG.stk h2) (ck_cref_ok hG.gi e1 e0 q) (fun x hx => K x (List.mem_append_left _ hx))) (fun q => ck_br_ok (hG.stk h2) (ck_cref_ok hG.gi e1 e0 q) (fun x hx => K x (List.mem_append_right _ hx)))
    · cases h
  · split at h
    · rename_i ho
      cases h
      exact lv_goto hx hb hd (ck_tg_ok ho) (K _ List.mem_cons_self ν ws tys H locs ls vs (fun _ _ => rfl) hG)
    · cases h
  · split at h
    · rename_i ho
      cases h
      obtain ⟨v, vs', rfl, h1, h2⟩ := hG.gs.pop
      have e1 : v = .null := h1
      subst e1
      exact lv_ifnullN hx hb hd (ck_tg_ok ho) (K _ List.mem_cons_self ν ws tys H locs ls _ (fun _ _ => rfl) (hG.stk h2))
    · cases h
  · cases h
    obtain ⟨v, vs', rfl, ⟨q, h1, rfl⟩, h2⟩ := hG.gs.pop
    exact lv_ifnull hx hb hd (K _ List.mem_cons_self ν ws tys H locs ls _ (fun _ _ => rfl) (hG.stk h2))
  · cases h
    obtain ⟨v, vs', rfl, h1, h2⟩ := hG.gs.pop
    have e1 : v = .null := h1
    subst e1
    exact lv_ifnonnullN hx hb hd (K _ List.mem_cons_self ν ws tys H locs ls _ (fun _ _ => rfl) (hG.stk h2))
  · split at h
    · rename_i ho
      cases h
      obtain ⟨v, vs', rfl, ⟨q, h1, rfl⟩, h2⟩ := hG.gs.pop
      exact lv_ifnonnull hx hb hd (ck_tg_ok ho) (K _ List.mem_cons_self ν ws tys H locs ls _ (fun _ _ => rfl) (hG.stk h2))
    · cases h
  · split at h
    · rename_i dflt lo hi offs len f S' ho
      obtain ⟨o1, o2, o3⟩ := ho
      cases h
      obtain ⟨v, vs', rfl, ⟨w1, x, rfl, e1⟩, h2⟩ := hG.gs.pop
      rcases Int.lt_or_le x.toInt lo with q | q
      · exact lv_tableOut hx hb hd (Or.inl q) (ck_tg_ok o2) (ck_br_ok (hG.stk h2) (ck_le_ok hG.gi (by omega)) (fun x hx => K x (List.mem_append_left _ hx)))
      · rcases Int.lt_or_le hi x.toInt with q2 | q2
        · exact lv_tableOut hx hb hd (Or.inr q2) (ck_tg_ok o2) (ck_br_ok (hG.stk h2) (ck_ge_ok hG.gi (by omega)) (fun x hx => K x (List.mem_append_right _ (List.mem_append_left _ hx))))
        · have hj : (x.toInt - lo).toNat < offs.toList.length := by omega
          have hg : offs.toList[(x.toInt - lo).toNat]? = some offs.toList[(x.toInt - lo).toNat] := List.getElem?_eq_getElem hj
          have ht := ck_tg_ok (of_decide_eq_true (List.all_eq_true.mp o3 _ (List.getElem_mem hj)))
          have ev : ck_ev ν f = lo + ((0 + (x.toInt - lo).toNat : Nat) : Int) := by rw [← e1]; omega
          refine lv_tableIn hx hb hd (by omega) (by omega) (by rw [← Array.getElem?_toList]; exact hg) ht (ck_br_ok (hG.stk h2) ?_ (fun x hx => K x (List.mem_append_right _ (List.mem_append_right _ (ck_sw_in _ 0 _ hg x hx)))))
          obtain ⟨J, j1, j2, j3⟩ := ck_ge_ok (f := f) (c := lo + ((0 + (x.toInt - lo).toNat : Nat) : Int)) hG.gi (by omega)
          obtain ⟨J2, k1, k2, k3⟩ := ck_le_ok (f := f) (c := lo + ((0 + (x.toInt - lo).toNat : Nat) : Int)) j2 (by omega)
          exact ⟨J2, by rw [j1]; exact k1, k2, k3.trans j3⟩
    · cases h
  · cases h
end CKB
