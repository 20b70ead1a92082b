/-! TEXTS: length and charAt of a literal, the JDK's own methods -/
/-- how long the literals are -/
def mm_SN : List Nat := [4, 2, 2, 4, 4, 4, 4, 5, 5, 4, 4, 4, 3, 6, 5, 2, 3, 3]
abbrev ms_cCo : ByteArray := prog_18_method_152_code
def ms_yCo : MethodName := ⟨"java/lang/String", "coder", "()B"⟩
theorem ms_dCo_0 : decode ms_cCo 0 = .ok (.getstatic 38, 3) := by decide +kernel
theorem ms_dCo_3 : decode ms_cCo 3 = .ok (.ifCond .eq 10, 3) := by decide +kernel
theorem ms_dCo_6 : decode ms_cCo 6 = .ok (.aload_n 0, 1) := by decide +kernel
theorem ms_dCo_7 : decode ms_cCo 7 = .ok (.getfield 15, 3) := by decide +kernel
theorem ms_dCo_10 : decode ms_cCo 10 = .ok (.goto 4, 3) := by decide +kernel
theorem ms_dCo_13 : decode ms_cCo 13 = .ok (.iconst 1, 1) := by decide +kernel
theorem ms_dCo_14 : decode ms_cCo 14 = .ok (.ireturn, 1) := by decide +kernel
abbrev ms_cLa : ByteArray := prog_18_method_154_code
def ms_yLa : MethodName := ⟨"java/lang/String", "isLatin1", "()Z"⟩
theorem ms_dLa_0 : decode ms_cLa 0 = .ok (.getstatic 38, 3) := by decide +kernel
theorem ms_dLa_3 : decode ms_cLa 3 = .ok (.ifCond .eq 14, 3) := by decide +kernel
theorem ms_dLa_6 : decode ms_cLa 6 = .ok (.aload_n 0, 1) := by decide +kernel
theorem ms_dLa_7 : decode ms_cLa 7 = .ok (.getfield 15, 3) := by decide +kernel
theorem ms_dLa_10 : decode ms_cLa 10 = .ok (.ifCond .ne 7, 3) := by decide +kernel
theorem ms_dLa_13 : decode ms_cLa 13 = .ok (.iconst 1, 1) := by decide +kernel
theorem ms_dLa_14 : decode ms_cLa 14 = .ok (.goto 4, 3) := by decide +kernel
theorem ms_dLa_17 : decode ms_cLa 17 = .ok (.iconst 0, 1) := by decide +kernel
theorem ms_dLa_18 : decode ms_cLa 18 = .ok (.ireturn, 1) := by decide +kernel
abbrev ms_cLe : ByteArray := prog_18_method_54_code
def ms_yLe : MethodName := ⟨"java/lang/String", "length", "()I"⟩
theorem ms_dLe_0 : decode ms_cLe 0 = .ok (.aload_n 0, 1) := by decide +kernel
theorem ms_dLe_1 : decode ms_cLe 1 = .ok (.getfield 9, 3) := by decide +kernel
theorem ms_dLe_4 : decode ms_cLe 4 = .ok (.arraylength, 1) := by decide +kernel
theorem ms_dLe_5 : decode ms_cLe 5 = .ok (.aload_n 0, 1) := by decide +kernel
theorem ms_dLe_6 : decode ms_cLe 6 = .ok (.invokevirtual 335, 3) := by decide +kernel
theorem ms_dLe_9 : decode ms_cLe 9 = .ok (.ishr, 1) := by decide +kernel
theorem ms_dLe_10 : decode ms_cLe 10 = .ok (.ireturn, 1) := by decide +kernel
abbrev ms_cCh : ByteArray := prog_18_method_56_code
def ms_yCh : MethodName := ⟨"java/lang/String", "charAt", "(I)C"⟩
theorem ms_dCh_0 : decode ms_cCh 0 = .ok (.aload_n 0, 1) := by decide +kernel
theorem ms_dCh_1 : decode ms_cCh 1 = .ok (.invokevirtual 492, 3) := by decide +kernel
theorem ms_dCh_4 : decode ms_cCh 4 = .ok (.ifCond .eq 12, 3) := by decide +kernel
theorem ms_dCh_7 : decode ms_cCh 7 = .ok (.aload_n 0, 1) := by decide +kernel
theorem ms_dCh_8 : decode ms_cCh 8 = .ok (.getfield 9, 3) := by decide +kernel
theorem ms_dCh_11 : decode ms_cCh 11 = .ok (.iload_n 1, 1) := by decide +kernel
theorem ms_dCh_12 : decode ms_cCh 12 = .ok (.invokestatic 495, 3) := by decide +kernel
theorem ms_dCh_15 : decode ms_cCh 15 = .ok (.ireturn, 1) := by decide +kernel
theorem ms_dCh_16 : decode ms_cCh 16 = .ok (.aload_n 0, 1) := by decide +kernel
theorem ms_dCh_17 : decode ms_cCh 17 = .ok (.getfield 9, 3) := by decide +kernel
theorem ms_dCh_20 : decode ms_cCh 20 = .ok (.iload_n 1, 1) := by decide +kernel
theorem ms_dCh_21 : decode ms_cCh 21 = .ok (.invokestatic 498, 3) := by decide +kernel
theorem ms_dCh_24 : decode ms_cCh 24 = .ok (.ireturn, 1) := by decide +kernel
abbrev ms_cC1 : ByteArray := prog_19_method_2_code
def ms_yC1 : MethodName := ⟨"java/lang/StringLatin1", "charAt", "([BI)C"⟩
theorem ms_dC1_0 : decode ms_cC1 0 = .ok (.iload_n 1, 1) := by decide +kernel
theorem ms_dC1_1 : decode ms_cC1 1 = .ok (.aload_n 0, 1) := by decide +kernel
theorem ms_dC1_2 : decode ms_cC1 2 = .ok (.arraylength, 1) := by decide +kernel
theorem ms_dC1_3 : decode ms_cC1 3 = .ok (.invokestatic 9, 3) := by decide +kernel
theorem ms_dC1_6 : decode ms_cC1 6 = .ok (.aload_n 0, 1) := by decide +kernel
theorem ms_dC1_7 : decode ms_cC1 7 = .ok (.iload_n 1, 1) := by decide +kernel
theorem ms_dC1_8 : decode ms_cC1 8 = .ok (.baload, 1) := by decide +kernel
theorem ms_dC1_9 : decode ms_cC1 9 = .ok (.sipush 255, 3) := by decide +kernel
theorem ms_dC1_12 : decode ms_cC1 12 = .ok (.iand, 1) := by decide +kernel
theorem ms_dC1_13 : decode ms_cC1 13 = .ok (.i2c, 1) := by decide +kernel
theorem ms_dC1_14 : decode ms_cC1 14 = .ok (.ireturn, 1) := by decide +kernel
abbrev ms_cK0 : ByteArray := prog_18_method_155_code
def ms_yK0 : MethodName := ⟨"java/lang/String", "checkIndex", "(II)V"⟩
theorem ms_dK0_0 : decode ms_cK0 0 = .ok (.iload_n 0, 1) := by decide +kernel
theorem ms_dK0_1 : decode ms_cK0 1 = .ok (.iload_n 1, 1) := by decide +kernel
theorem ms_dK0_2 : decode ms_cK0 2 = .ok (.getstatic 1053, 3) := by decide +kernel
theorem ms_dK0_5 : decode ms_cK0 5 = .ok (.invokestatic 1059, 3) := by decide +kernel
theorem ms_dK0_8 : decode ms_cK0 8 = .ok (.pop, 1) := by decide +kernel
theorem ms_dK0_9 : decode ms_cK0 9 = .ok (.return_, 1) := by decide +kernel
abbrev ms_cK3 : ByteArray := prog_23_method_11_code
def ms_yK3 : MethodName := ⟨"jdk/internal/util/Preconditions", "checkIndex", "(IILjava/util/function/BiFunction;)I"⟩
theorem ms_dK3_0 : decode ms_cK3 0 = .ok (.iload_n 0, 1) := by decide +kernel
theorem ms_dK3_1 : decode ms_cK3 1 = .ok (.ifCond .lt 8, 3) := by decide +kernel
theorem ms_dK3_4 : decode ms_cK3 4 = .ok (.iload_n 0, 1) := by decide +kernel
theorem ms_dK3_5 : decode ms_cK3 5 = .ok (.iload_n 1, 1) := by decide +kernel
theorem ms_dK3_6 : decode ms_cK3 6 = .ok (.if_icmp .lt 10, 3) := by decide +kernel
theorem ms_dK3_9 : decode ms_cK3 9 = .ok (.aload_n 2, 1) := by decide +kernel
theorem ms_dK3_10 : decode ms_cK3 10 = .ok (.iload_n 0, 1) := by decide +kernel
theorem ms_dK3_11 : decode ms_cK3 11 = .ok (.iload_n 1, 1) := by decide +kernel
theorem ms_dK3_12 : decode ms_cK3 12 = .ok (.invokestatic 95, 3) := by decide +kernel
theorem ms_dK3_15 : decode ms_cK3 15 = .ok (.athrow, 1) := by decide +kernel
theorem ms_dK3_16 : decode ms_cK3 16 = .ok (.iload_n 0, 1) := by decide +kernel
theorem ms_dK3_17 : decode ms_cK3 17 = .ok (.ireturn, 1) := by decide +kernel
def ms_ws : List Cond := [.fieldLink "java/lang/String" 38 "java/lang/String" "COMPACT_STRINGS" "Z", .fieldLink "java/lang/String" 15 "java/lang/String" "coder" "B", .fieldLink "java/lang/String" 9 "java/lang/String" "value" "[B", .methodLink "java/lang/String" 335 ms_yCo, .instanceMethod ms_yCo, .selects "java/lang/String" ms_yCo ms_yCo, .initialized "java/lang/String", .code ms_yCo ms_cCo 1 (some .byte), .methodLink "java/lang/String" 492 ms_yLa, .instanceMethod ms_yLa, .selects "java/lang/String" ms_yLa ms_yLa, .code ms_yLa ms_cLa 1 (some .boolean), .methodLink "java/lang/String" 495 ms_yC1, .static ms_yC1, .initialized "java/lang/StringLatin1", .code ms_yC1 ms_cC1 2 (some .char), .methodLink "java/lang/StringLatin1" 9 ms_yK0, .static ms_yK0, .code ms_yK0 ms_cK0 2 none, .fieldLink "java/lang/String" 1053 "jdk/internal/util/Preconditions" "SIOOBE_FORMATTER" "Ljava/util/function/BiFunction;", .methodLink "java/lang/String" 1059 ms_yK3, .static ms_yK3, .initialized "jdk/internal/util/Preconditions", .code ms_yK3 ms_cK3 3 (some .int), .instanceMethod ms_yLe, .selects "java/lang/String" ms_yLe ms_yLe, .code ms_yLe ms_cLe 1 (some .int), .instanceMethod ms_yCh, .selects "java/lang/String" ms_yCh ms_yCh, .code ms_yCh ms_cCh 2 (some .char)]
/-- what is known of a literal's cell a, n bytes long, and of the statics that its methods read -/
def ms_X (n a : Nat) (A : Nat → Prop) (U : State) (H : Heap) : Prop := va_Z "java/lang/String" "COMPACT_STRINGS" "Z" (.int 1) A U H ∧ va_Zq "jdk/internal/util/Preconditions" "SIOOBE_FORMATTER" "Ljava/util/function/BiFunction;" A U H ∧ va_O "java/lang/String" a A U H ∧ va_OF "java/lang/String" "coder" "B" (.int 0) a A U H ∧ ∃ (v : Nat) (f : Nat → Int32), va_OF "java/lang/String" "value" "[B" (.ref v) a A U H ∧ va_T .byte v n (fun j => .int (f j)) A U H
theorem ms_X.moved {n a : Nat} {A : Nat → Prop} {u U : State} {H : Heap} (hvm : u.vm.Alike U.vm) (h : ms_X n a A u H) : ms_X n a A U H := by
  obtain ⟨h1, h2, h3, h4, v, f, h5, h6⟩ := h
  exact ⟨h1.moved hvm, h2.moved hvm, h3.moved hvm, h4.moved hvm, v, f, h5.moved hvm, h6.moved hvm⟩
theorem ms_X.kept {n a : Nat} {A : Nat → Prop} {U : State} {H H1 : Heap} (hq : ∀ a : Nat, a < H.size → ¬ A a → H1[a]? = H[a]?) (h : ms_X n a A U H) : ms_X n a A U H1 := by
  obtain ⟨h1, h2, h3, h4, v, f, h5, h6⟩ := h
  exact ⟨h1.kept hq, h2.kept hq, h3.kept hq, h4.kept hq, v, f, h5.kept hq, h6.kept hq⟩
theorem ms_X.narrow {n a : Nat} {A B : Nat → Prop} {U : State} {H : Heap} (hAB : ∀ q, B q → A q) (h : ms_X n a A U H) : ms_X n a B U H := by
  obtain ⟨h1, h2, h3, h4, v, f, h5, h6⟩ := h
  exact ⟨h1.narrow hAB, h2.narrow hAB, h3.narrow hAB, h4.narrow hAB, v, f, h5.narrow hAB, h6.narrow hAB⟩
def mm_str (st : Nat → Nat) (A : Nat → Prop) (U : State) (H : Heap) : Prop := va_Nw (.castable "[I" "java/lang/Cloneable") U ∧ ∀ k n, mm_SN[k]? = some n → ms_X n (st k) A U H
theorem mm_SN_lt : ∀ n ∈ mm_SN, n < 100 := by decide
abbrev ms_rm (f lo : Nat) : Room := { frames := f, cells := 0, slots := 0, locals := lo }
def ms_Q : Array Value → State → Outcome → State → Prop := fun _ st o t => ∃ v : Int32, o = .returned (some (.int v)) ∧ narrow .char (.int v) = .int v ∧ t.heap = st.heap
theorem ms_blind {n a : Nat} {vs : List Value} : FrameBlind (va_Pc vs (fun U => ms_X n a (fun _ => False) U U.heap)) := fun b U g mk q => ⟨q.1, ms_X.moved (u := U) (U := U.calling g mk b) (Vm.Alike.refl U.vm) q.2⟩
section MSC
variable {p : Program} {l : Launch} {e : Env} {R : Room} {s : State} {m : MethodId} {args : Array Value} {below : List Frame} {meth : Method} {c : Code} {H : Heap} {locs : List Loc} {cells slots : Nat} {Q : State → Prop} {rest : List Value} {g : JFrame} {a : Array Value}
theorem ms_callC (hr : CallRun p l e R s m args below meth c H locs cells slots 0 0 g rest (ms_Q a) (fun _ => False)) (kk : ∀ z : Int32, narrow .char (.int z) = .int z → W p l e R s m args below meth c H locs cells slots Q { g with pc := g.pc + 3, stack := .int z :: rest }) : W p l e R s m args below meth c H locs cells slots Q g := by
  intro T hT X
  obtain ⟨v, st₀, t, T', L, h0, X', hL, e1, ⟨z, hv, hz, hh⟩, st⟩ := hr T hT X
  cases hv
  obtain ⟨t2, a1, b1⟩ := kk z hz T' (by rw [e1, hh, h0]) (Stand.forget X' (fun q h => (hL q h).elim))
  exact ⟨t2, st t2 a1, b1⟩
end MSC
section MSM
variable {Ts : List Cond}
theorem ms_good {w : Cond} (hg : GoodIn Ts Ts) (hw : w ∈ Ts) : GoodIn (w :: Ts) (w :: Ts) := fun x hx => by
  rcases List.mem_cons.mp hx with rfl | hx
  · exact ⟨List.mem_cons_self, (hg _ hw).2⟩
  · exact ⟨List.mem_cons_of_mem _ (hg _ hx).1, (hg _ hx).2⟩
theorem ms_good2 {w w' : Cond} (hg : GoodIn Ts Ts) (hw : w ∈ Ts) : GoodIn (w' :: Ts) (w :: Ts) := fun x hx => by
  rcases List.mem_cons.mp hx with rfl | hx
  · exact ⟨List.mem_cons_of_mem _ hw, (hg _ hw).2⟩
  · exact ⟨List.mem_cons_of_mem _ (hg _ hx).1, (hg _ hx).2⟩
theorem ms_Co (l : Launch) (hw : ∀ w ∈ ms_ws, w ∈ Ts) (n a : Nat) : Met l ms_yCo (.code ms_yCo ms_cCo 1 (some .byte) :: Ts) (ms_rm 0 0) (va_Pc [.ref a] (fun U => ms_X n a (fun _ => False) U U.heap)) (QcRead 0) 0 0 (fun _ => False) := by
  refine Met.ofW (cc := ms_cCo) (maxL := 1) (ret := (some .byte)) (by decide) rfl ?_
  intro p e s m args below meth c s₁ B hml hv
  obtain ⟨rfl, hZ, hZq, hO, hC, v, f, hV, hT⟩ := hv
  have hx := B.exec
  have hb := B.bytes
  have hr := B.returns
  have hts := atoms_spec (ws := Cond.code ms_yCo ms_cCo 1 (some .byte) :: Ts) B.pre
  have hown : s.vm.findClass "java/lang/String" = some m.cls := findClass_of_methodNamed B.named
  have hlocks := B.notSynchronized
  have hl := lv_entry ([.ref a]) (n := 1) (Nat.le_of_ble_eq_true rfl)
  rw [lg_entry_eq]
  generalize (lg_sl ([.ref a]) ++ List.replicate (1 - (lg_sl ([.ref a])).length) Slot.unset).toArray = ls at hl ⊢
  have hS : va_S (fun _ => False) s.heap s.heap [] := va_S.rf
  have hl : lv_has ls 1 [(0, .ref a)] := hl
  refine va_gets hx hb hZ hS hown (hts _ (List.mem_cons_of_mem _ (hw _ (List.mem_of_getElem? (i := 0) rfl)))) (fun _ h => h) ms_dCo_0 ?_
  refine lv_if_eq hx hb ms_dCo_3 (tgt := 13) rfl (fun q => by cases q) (fun _ => ?_)
  refine lv_aload_n hx hb ms_dCo_6 rfl (lv_at hl 0 rfl) ?_
  refine vk_getf hx hb hC hS hown (hts _ (List.mem_cons_of_mem _ (hw _ (List.mem_of_getElem? (i := 1) rfl)))) (fun _ h => h) ms_dCo_7 ?_
  refine lv_goto hx hb ms_dCo_10 (tgt := 14) rfl ?_
  exact W.zret hx hb hr rfl (fun t ht _ => ⟨rfl, ht⟩) hS.2.2 ms_dCo_14
theorem ms_La (l : Launch) (hw : ∀ w ∈ ms_ws, w ∈ Ts) (n a : Nat) : Met l ms_yLa (.code ms_yLa ms_cLa 1 (some .boolean) :: Ts) (ms_rm 0 0) (va_Pc [.ref a] (fun U => ms_X n a (fun _ => False) U U.heap)) (QcRead 1) 0 0 (fun _ => False) := by
  refine Met.ofW (cc := ms_cLa) (maxL := 1) (ret := (some .boolean)) (by decide) rfl ?_
  intro p e s m args below meth c s₁ B hml hv
  obtain ⟨rfl, hZ, hZq, hO, hC, v, f, hV, hT⟩ := hv
  have hx := B.exec
  have hb := B.bytes
  have hr := B.returns
  have hts := atoms_spec (ws := Cond.code ms_yLa ms_cLa 1 (some .boolean) :: Ts) B.pre
  have hown : s.vm.findClass "java/lang/String" = some m.cls := findClass_of_methodNamed B.named
  have hlocks := B.notSynchronized
  have hl := lv_entry ([.ref a]) (n := 1) (Nat.le_of_ble_eq_true rfl)
  rw [lg_entry_eq]
  generalize (lg_sl ([.ref a]) ++ List.replicate (1 - (lg_sl ([.ref a])).length) Slot.unset).toArray = ls at hl ⊢
  have hS : va_S (fun _ => False) s.heap s.heap [] := va_S.rf
  have hl : lv_has ls 1 [(0, .ref a)] := hl
  refine va_gets hx hb hZ hS hown (hts _ (List.mem_cons_of_mem _ (hw _ (List.mem_of_getElem? (i := 0) rfl)))) (fun _ h => h) ms_dLa_0 ?_
  refine lv_if_eq hx hb ms_dLa_3 (tgt := 17) rfl (fun q => by cases q) (fun _ => ?_)
  refine lv_aload_n hx hb ms_dLa_6 rfl (lv_at hl 0 rfl) ?_
  refine vk_getf hx hb hC hS hown (hts _ (List.mem_cons_of_mem _ (hw _ (List.mem_of_getElem? (i := 1) rfl)))) (fun _ h => h) ms_dLa_7 ?_
  refine lv_if_ne hx hb ms_dLa_10 (tgt := 17) rfl (fun q => (q rfl).elim) (fun _ => ?_)
  refine lv_iconst hx hb ms_dLa_13 rfl ?_
  refine lv_goto hx hb ms_dLa_14 (tgt := 18) rfl ?_
  exact W.zret hx hb hr rfl (fun t ht _ => ⟨rfl, ht⟩) hS.2.2 ms_dLa_18
theorem ms_K3n (l : Launch) (x y : Int32) (h0 : ¬ x < 0) (h1 : x < y) : Met l ms_yK3 (.code ms_yK3 ms_cK3 3 (some .int) :: Ts) (ms_rm 0 0) (va_Pc [.int x, .int y, .null] (fun _ => True)) (QcRead x) 0 0 (fun _ => False) := by
  refine Met.ofW (cc := ms_cK3) (maxL := 3) (ret := (some .int)) (by decide) rfl ?_
  intro p e s m args below meth c s₁ B hml hv
  obtain ⟨rfl, -⟩ := hv
  have hx := B.exec
  have hb := B.bytes
  have hr := B.returns
  have hts := atoms_spec (ws := Cond.code ms_yK3 ms_cK3 3 (some .int) :: Ts) B.pre
  have hown : s.vm.findClass "jdk/internal/util/Preconditions" = some m.cls := findClass_of_methodNamed B.named
  have hlocks := B.notSynchronized
  have hl := lv_entry ([.int x, .int y, .null]) (n := 3) (Nat.le_of_ble_eq_true rfl)
  rw [lg_entry_eq]
  generalize (lg_sl ([.int x, .int y, .null]) ++ List.replicate (3 - (lg_sl ([.int x, .int y, .null])).length) Slot.unset).toArray = ls at hl ⊢
  have hS : va_S (fun _ => False) s.heap s.heap [] := va_S.rf
  have hl : lv_has ls 3 [(0, .int x), (1, .int y), (2, .null)] := hl
  refine lv_iload_n hx hb ms_dK3_0 rfl (lv_at hl 0 rfl) ?_
  refine lv_if_lt hx hb ms_dK3_1 (tgt := 9) rfl (fun q => (h0 q).elim) (fun _ => ?_)
  refine lv_iload_n hx hb ms_dK3_4 rfl (lv_at hl 0 rfl) ?_
  refine lv_iload_n hx hb ms_dK3_5 rfl (lv_at hl 1 rfl) ?_
  refine lv_icmp_lt hx hb ms_dK3_6 (tgt := 16) rfl (fun _ => ?_) (fun q => (q h1).elim)
  refine lv_iload_n hx hb ms_dK3_16 rfl (lv_at hl 0 rfl) ?_
  exact W.iret hx hb hr (fun t ht _ => ⟨rfl, ht⟩) hS.2.2 ms_dK3_17
theorem ms_K3r (l : Launch) (x y : Int32) (t : Nat) (h0 : ¬ x < 0) (h1 : x < y) : Met l ms_yK3 (.code ms_yK3 ms_cK3 3 (some .int) :: Ts) (ms_rm 0 0) (va_Pc [.int x, .int y, .ref t] (fun _ => True)) (QcRead x) 0 0 (fun _ => False) := by
  refine Met.ofW (cc := ms_cK3) (maxL := 3) (ret := (some .int)) (by decide) rfl ?_
  intro p e s m args below meth c s₁ B hml hv
  obtain ⟨rfl, -⟩ := hv
  have hx := B.exec
  have hb := B.bytes
  have hr := B.returns
  have hts := atoms_spec (ws := Cond.code ms_yK3 ms_cK3 3 (some .int) :: Ts) B.pre
  have hown : s.vm.findClass "jdk/internal/util/Preconditions" = some m.cls := findClass_of_methodNamed B.named
  have hlocks := B.notSynchronized
  have hl := lv_entry ([.int x, .int y, .ref t]) (n := 3) (Nat.le_of_ble_eq_true rfl)
  rw [lg_entry_eq]
  generalize (lg_sl ([.int x, .int y, .ref t]) ++ List.replicate (3 - (lg_sl ([.int x, .int y, .ref t])).length) Slot.unset).toArray = ls at hl ⊢
  have hS : va_S (fun _ => False) s.heap s.heap [] := va_S.rf
  have hl : lv_has ls 3 [(0, .int x), (1, .int y), (2, .ref t)] := hl
  refine lv_iload_n hx hb ms_dK3_0 rfl (lv_at hl 0 rfl) ?_
  refine lv_if_lt hx hb ms_dK3_1 (tgt := 9) rfl (fun q => (h0 q).elim) (fun _ => ?_)
  refine lv_iload_n hx hb ms_dK3_4 rfl (lv_at hl 0 rfl) ?_
  refine lv_iload_n hx hb ms_dK3_5 rfl (lv_at hl 1 rfl) ?_
  refine lv_icmp_lt hx hb ms_dK3_6 (tgt := 16) rfl (fun _ => ?_) (fun q => (q h1).elim)
  refine lv_iload_n hx hb ms_dK3_16 rfl (lv_at hl 0 rfl) ?_
  exact W.iret hx hb hr (fun t ht _ => ⟨rfl, ht⟩) hS.2.2 ms_dK3_17
theorem ms_K3 (l : Launch) (x y : Int32) (v : Value) (hv0 : v = .null ∨ ∃ t, v = .ref t) (h0 : ¬ x < 0) (h1 : x < y) : Met l ms_yK3 (.code ms_yK3 ms_cK3 3 (some .int) :: Ts) (ms_rm 0 0) (va_Pc [.int x, .int y, v] (fun _ => True)) (QcRead x) 0 0 (fun _ => False) := by
  rcases hv0 with rfl | ⟨t, rfl⟩
  · exact ms_K3n l x y h0 h1
  · exact ms_K3r l x y t h0 h1
theorem ms_K0 (l : Launch) (hg : GoodIn Ts Ts) (hw : ∀ w ∈ ms_ws, w ∈ Ts) (n a : Nat) (x y : Int32) (h0 : ¬ x < 0) (h1 : x < y) : Met l ms_yK0 (.code ms_yK0 ms_cK0 2 none :: Ts) (ms_rm 1 22) (va_Pc [.int x, .int y] (fun U => ms_X n a (fun _ => False) U U.heap)) (va_Sv (fun _ => True)) 0 0 (fun _ => False) := by
  refine Met.ofW (cc := ms_cK0) (maxL := 2) (ret := none) (by decide) rfl ?_
  intro p e s m args below meth c s₁ B hml hv
  obtain ⟨rfl, hZ, hZq, hO, hC, v, f, hV, hT⟩ := hv
  have hx := B.exec
  have hb := B.bytes
  have hr := B.returns
  have hts := atoms_spec (ws := Cond.code ms_yK0 ms_cK0 2 none :: Ts) B.pre
  have hown : s.vm.findClass "java/lang/String" = some m.cls := findClass_of_methodNamed B.named
  have hlocks := B.notSynchronized
  have hl := lv_entry ([.int x, .int y]) (n := 2) (Nat.le_of_ble_eq_true rfl)
  rw [lg_entry_eq]
  generalize (lg_sl ([.int x, .int y]) ++ List.replicate (2 - (lg_sl ([.int x, .int y])).length) Slot.unset).toArray = ls at hl ⊢
  have hS : va_S (fun _ => False) s.heap s.heap [] := va_S.rf
  have hl : lv_has ls 2 [(0, .int x), (1, .int y)] := hl
  have key : ∀ u : Value, (u = .null ∨ ∃ t, u = .ref t) → va_Z "jdk/internal/util/Preconditions" "SIOOBE_FORMATTER" "Ljava/util/function/BiFunction;" u (fun _ => False) s s.heap → W p l e (headSpec (Cond.code ms_yK0 ms_cK0 2 none :: Ts) (ms_rm 1 22)).room s m [Value.int x, Value.int y].toArray below meth c s.heap [] 0 0 (MQ below (va_Sv (fun _ => True)) [Value.int x, Value.int y].toArray s 0 0 (fun _ => False)) (F0 m 0 ls []) := by
    intro u hu hZu
    refine lv_iload_n hx hb ms_dK0_0 rfl (lv_at hl 0 rfl) ?_
    refine lv_iload_n hx hb ms_dK0_1 rfl (lv_at hl 1 rfl) ?_
    refine va_gets hx hb hZu hS hown (hts _ (List.mem_cons_of_mem _ (hw _ (List.mem_of_getElem? (i := 19) rfl)))) (fun _ h => h) ms_dK0_2 ?_
    refine W.callR (r := x) (W.runS (As := [.int x, .int y, u]) (rest := []) ⟨hx, hb, hml, hown, hts⟩ (ms_K3 l x y u hu h0 h1) ⟨callB_of (Ts := Cond.code ms_yK0 ms_cK0 2 none :: Ts) 3 hts (ms_good2 hg (hw _ (List.mem_of_getElem? (i := 23) rfl))) rfl rfl rfl (hts _ (List.mem_cons_of_mem _ (hw _ (List.mem_of_getElem? (i := 22) rfl)))) (hts _ (List.mem_cons_of_mem _ (hw _ (List.mem_of_getElem? (i := 20) rfl)))) (by decide +kernel) ⟨Nat.le_of_ble_eq_true rfl, Nat.le_of_ble_eq_true rfl⟩, (hts _ (List.mem_cons_of_mem _ (hw _ (List.mem_of_getElem? (i := 21) rfl))))⟩ ⟨fun _ _ _ _ h => h, fun U _ _ => ⟨rfl, trivial⟩⟩ rfl rfl (by exact hl.1) rfl (Nat.le_of_ble_eq_true rfl) ms_dK0_5 ⟨Nat.zero_le _, Nat.zero_le _⟩) ?_
    refine W.eq (g2 := F0 m 8 ls [.int x]) rfl ?_
    refine lv_pop hx hb ms_dK0_8 rfl ?_
    exact W.vret hx hb hr (fun t ht _ => ⟨rfl, trivial, ht⟩) hS.2.2 ms_dK0_9
  rcases hZq with hz | ⟨t, hz⟩
  · exact key _ (Or.inl rfl) hz
  · exact key _ (Or.inr ⟨t, rfl⟩) hz
theorem ms_C1 (l : Launch) (hg : GoodIn Ts Ts) (hw : ∀ w ∈ ms_ws, w ∈ Ts) (n a b : Nat) (x : Int32) (hn : n < 2 ^ 31) (h0 : 0 ≤ x.toInt) (h1 : x.toInt < n) : Met l ms_yC1 (.code ms_yC1 ms_cC1 2 (some .char) :: Ts) (ms_rm 2 43) (va_Pc [.ref b, .int x] (fun U => ms_X n a (fun _ => False) U U.heap ∧ ∃ f : Nat → Int32, va_T .byte b n (fun j => .int (f j)) (fun _ => False) U U.heap)) ms_Q 0 0 (fun _ => False) := by
  refine Met.ofW (cc := ms_cC1) (maxL := 2) (ret := (some .char)) (by decide) rfl ?_
  intro p e s m args below meth c s₁ B hml hv
  obtain ⟨rfl, hX, f, hT⟩ := hv
  have hx := B.exec
  have hb := B.bytes
  have hr := B.returns
  have hts := atoms_spec (ws := Cond.code ms_yC1 ms_cC1 2 (some .char) :: Ts) B.pre
  have hown : s.vm.findClass "java/lang/StringLatin1" = some m.cls := findClass_of_methodNamed B.named
  have hlocks := B.notSynchronized
  have hl := lv_entry ([.ref b, .int x]) (n := 2) (Nat.le_of_ble_eq_true rfl)
  rw [lg_entry_eq]
  generalize (lg_sl ([.ref b, .int x]) ++ List.replicate (2 - (lg_sl ([.ref b, .int x])).length) Slot.unset).toArray = ls at hl ⊢
  have hS : va_S (fun _ => False) s.heap s.heap [] := va_S.rf
  have hl : lv_has ls 2 [(0, .ref b), (1, .int x)] := hl
  have x0 : ¬ x < 0 := fun z => by
    have z2 := Int32.lt_iff_toInt_lt.mp z
    have z3 : (0 : Int32).toInt = 0 := rfl
    omega
  have xn : x < Int32.ofNat n := by
    have e := nI_toInt hn
    exact Int32.lt_iff_toInt_lt.mpr (by show x.toInt < (nI n).toInt; omega)
  refine lv_iload_n hx hb ms_dC1_0 rfl (lv_at hl 1 rfl) ?_
  refine lv_aload_n hx hb ms_dC1_1 rfl (lv_at hl 0 rfl) ?_
  refine va_tlen hx hb hT hS rfl ms_dC1_2 ?_
  refine va_csv (W.runS (As := [.int x, .int (Int32.ofNat n)]) (rest := []) ⟨hx, hb, hml, hown, hts⟩ (ms_K0 l hg hw n a x _ x0 xn) ⟨callB_of (Ts := Cond.code ms_yC1 ms_cC1 2 (some .char) :: Ts) 2 hts (ms_good2 hg (hw _ (List.mem_of_getElem? (i := 18) rfl))) rfl rfl rfl (hts _ (List.mem_cons_of_mem _ (hw _ (List.mem_of_getElem? (i := 6) rfl)))) (hts _ (List.mem_cons_of_mem _ (hw _ (List.mem_of_getElem? (i := 16) rfl)))) (by decide +kernel) ⟨Nat.le_of_ble_eq_true rfl, Nat.le_of_ble_eq_true rfl⟩, (hts _ (List.mem_cons_of_mem _ (hw _ (List.mem_of_getElem? (i := 17) rfl))))⟩ ⟨ms_blind, fun U hU hW => ⟨rfl, by show ms_X n a _ U U.heap; rw [hU]; exact hX.moved hW.alike⟩⟩ rfl rfl (by exact hl.1) rfl (Nat.le_of_ble_eq_true rfl) ms_dC1_3 ⟨Nat.zero_le _, Nat.zero_le _⟩) (fun _ => ?_)
  refine lv_aload_n hx hb ms_dC1_6 rfl (lv_at hl 0 rfl) ?_
  refine lv_iload_n hx hb ms_dC1_7 rfl (lv_at hl 1 rfl) ?_
  refine va_tb hx hb hT hS (vp_in_iff.mpr ⟨h0, h1⟩) rfl ms_dC1_8 ?_
  refine lv_sipush hx hb ms_dC1_9 rfl ?_
  refine lv_iand hx hb ms_dC1_12 ?_
  refine lv_i2c hx hb ms_dC1_13 (sc_c2 _) ?_
  exact W.zret hx hb hr (sc_nar _) (fun t ht _ => ⟨_, rfl, sc_nar _, ht⟩) hS.2.2 ms_dC1_14
theorem ms_Le (l : Launch) (hg : GoodIn Ts Ts) (hw : ∀ w ∈ ms_ws, w ∈ Ts) (n a : Nat) (hn : n < 2 ^ 31) : Met l ms_yLe (.code ms_yLe ms_cLe 1 (some .int) :: Ts) (ms_rm 1 20) (va_Pc [.ref a] (fun U => ms_X n a (fun _ => False) U U.heap)) (QcRead (Int32.ofNat n)) 0 0 (fun _ => False) := by
  refine Met.ofW (cc := ms_cLe) (maxL := 1) (ret := (some .int)) (by decide) rfl ?_
  intro p e s m args below meth c s₁ B hml hv
  obtain ⟨rfl, hX⟩ := hv
  have hx := B.exec
  have hb := B.bytes
  have hr := B.returns
  have hts := atoms_spec (ws := Cond.code ms_yLe ms_cLe 1 (some .int) :: Ts) B.pre
  have hown : s.vm.findClass "java/lang/String" = some m.cls := findClass_of_methodNamed B.named
  have hlocks := B.notSynchronized
  have hl := lv_entry ([.ref a]) (n := 1) (Nat.le_of_ble_eq_true rfl)
  rw [lg_entry_eq]
  generalize (lg_sl ([.ref a]) ++ List.replicate (1 - (lg_sl ([.ref a])).length) Slot.unset).toArray = ls at hl ⊢
  have hS : va_S (fun _ => False) s.heap s.heap [] := va_S.rf
  obtain ⟨hZ, hZq, hO, hC, v, f, hV, hT⟩ := hX
  have hl : lv_has ls 1 [(0, .ref a)] := hl
  refine lv_aload_n hx hb ms_dLe_0 rfl (lv_at hl 0 rfl) ?_
  refine vk_getf hx hb hV hS hown (hts _ (List.mem_cons_of_mem _ (hw _ (List.mem_of_getElem? (i := 2) rfl)))) (fun _ h => h) ms_dLe_1 ?_
  refine va_tlen hx hb hT hS rfl ms_dLe_4 ?_
  refine lv_aload_n hx hb ms_dLe_5 rfl (lv_at hl 0 rfl) ?_
  have hrec : ∃ cell : Cell, s.heap[a]? = some cell ∧ cell.vm.isStatics = false ∧ s.vm.findClass "java/lang/String" = some cell.cls := by
    obtain ⟨cell, q1, q2, q3, -⟩ := hO
    exact ⟨cell, q1, q2, q3⟩
  refine W.callR (r := 0) (W.runV (C := "java/lang/String") (b := a) (As := []) (rest := [.int (Int32.ofNat n)]) ⟨hx, hb, hml, hown, hts⟩ (ms_Co l hw n a) ⟨callB_of (Ts := Cond.code ms_yLe ms_cLe 1 (some .int) :: Ts) 0 hts (ms_good2 hg (hw _ (List.mem_of_getElem? (i := 7) rfl))) rfl rfl rfl (hts _ (List.mem_cons_of_mem _ (hw _ (List.mem_of_getElem? (i := 6) rfl)))) (hts _ (List.mem_cons_of_mem _ (hw _ (List.mem_of_getElem? (i := 3) rfl)))) (by decide +kernel) ⟨Nat.le_of_ble_eq_true rfl, Nat.le_of_ble_eq_true rfl⟩, (hts _ (List.mem_cons_of_mem _ (hw _ (List.mem_of_getElem? (i := 4) rfl)))), (hts _ (List.mem_cons_of_mem _ (hw _ (List.mem_of_getElem? (i := 5) rfl))))⟩ ⟨ms_blind, hrec, fun U hU hW => ⟨rfl, by show ms_X n a _ U U.heap; rw [hU]; exact ms_X.moved hW.alike ⟨hZ, hZq, hO, hC, v, f, hV, hT⟩⟩⟩ rfl rfl (by exact hl.1) rfl (Nat.le_of_ble_eq_true rfl) ms_dLe_6 ⟨Nat.zero_le _, Nat.zero_le _⟩) ?_
  refine W.eq (g2 := F0 m 9 ls [.int 0, .int (Int32.ofNat n)]) rfl ?_
  refine lv_ishr hx hb ms_dLe_9 ?_
  rw [show Int32.ofNat n >>> ((0 : Int32) &&& 31) = Int32.ofNat n from sc_shr0 hn]
  exact W.iret hx hb hr (fun t ht _ => ⟨rfl, ht⟩) hS.2.2 ms_dLe_10
theorem ms_Ch (l : Launch) (hg : GoodIn Ts Ts) (hw : ∀ w ∈ ms_ws, w ∈ Ts) (n a : Nat) (x : Int32) (hn : n < 2 ^ 31) (h0 : 0 ≤ x.toInt) (h1 : x.toInt < n) : Met l ms_yCh (.code ms_yCh ms_cCh 2 (some .char) :: Ts) (ms_rm 3 64) (va_Pc [.ref a, .int x] (fun U => ms_X n a (fun _ => False) U U.heap)) ms_Q 0 0 (fun _ => False) := by
  refine Met.ofW (cc := ms_cCh) (maxL := 2) (ret := (some .char)) (by decide) rfl ?_
  intro p e s m args below meth c s₁ B hml hv
  obtain ⟨rfl, hX⟩ := hv
  have hx := B.exec
  have hb := B.bytes
  have hr := B.returns
  have hts := atoms_spec (ws := Cond.code ms_yCh ms_cCh 2 (some .char) :: Ts) B.pre
  have hown : s.vm.findClass "java/lang/String" = some m.cls := findClass_of_methodNamed B.named
  have hlocks := B.notSynchronized
  have hl := lv_entry ([.ref a, .int x]) (n := 2) (Nat.le_of_ble_eq_true rfl)
  rw [lg_entry_eq]
  generalize (lg_sl ([.ref a, .int x]) ++ List.replicate (2 - (lg_sl ([.ref a, .int x])).length) Slot.unset).toArray = ls at hl ⊢
  have hS : va_S (fun _ => False) s.heap s.heap [] := va_S.rf
  obtain ⟨hZ, hZq, hO, hC, v, f, hV, hT⟩ := hX
  have hl : lv_has ls 2 [(0, .ref a), (1, .int x)] := hl
  have hrec : ∃ cell : Cell, s.heap[a]? = some cell ∧ cell.vm.isStatics = false ∧ s.vm.findClass "java/lang/String" = some cell.cls := by
    obtain ⟨cell, q1, q2, q3, -⟩ := hO
    exact ⟨cell, q1, q2, q3⟩
  refine lv_aload_n hx hb ms_dCh_0 rfl (lv_at hl 0 rfl) ?_
  refine W.callR (r := 1) (W.runV (C := "java/lang/String") (b := a) (As := []) (rest := []) ⟨hx, hb, hml, hown, hts⟩ (ms_La l hw n a) ⟨callB_of (Ts := Cond.code ms_yCh ms_cCh 2 (some .char) :: Ts) 0 hts (ms_good2 hg (hw _ (List.mem_of_getElem? (i := 11) rfl))) rfl rfl rfl (hts _ (List.mem_cons_of_mem _ (hw _ (List.mem_of_getElem? (i := 6) rfl)))) (hts _ (List.mem_cons_of_mem _ (hw _ (List.mem_of_getElem? (i := 8) rfl)))) (by decide +kernel) ⟨Nat.le_of_ble_eq_true rfl, Nat.le_of_ble_eq_true rfl⟩, (hts _ (List.mem_cons_of_mem _ (hw _ (List.mem_of_getElem? (i := 9) rfl)))), (hts _ (List.mem_cons_of_mem _ (hw _ (List.mem_of_getElem? (i := 10) rfl))))⟩ ⟨ms_blind, hrec, fun U hU hW => ⟨rfl, by show ms_X n a _ U U.heap; rw [hU]; exact ms_X.moved hW.alike ⟨hZ, hZq, hO, hC, v, f, hV, hT⟩⟩⟩ rfl rfl (by exact hl.1) rfl (Nat.le_of_ble_eq_true rfl) ms_dCh_1 ⟨Nat.zero_le _, Nat.zero_le _⟩) ?_
  refine W.eq (g2 := F0 m 4 ls [.int 1]) rfl ?_
  refine lv_if_eq hx hb ms_dCh_4 (tgt := 16) rfl (fun q => by cases q) (fun _ => ?_)
  refine lv_aload_n hx hb ms_dCh_7 rfl (lv_at hl 0 rfl) ?_
  refine vk_getf hx hb hV hS hown (hts _ (List.mem_cons_of_mem _ (hw _ (List.mem_of_getElem? (i := 2) rfl)))) (fun _ h => h) ms_dCh_8 ?_
  refine lv_iload_n hx hb ms_dCh_11 rfl (lv_at hl 1 rfl) ?_
  refine ms_callC (W.runS (As := [.ref v, .int x]) (rest := []) ⟨hx, hb, hml, hown, hts⟩ (ms_C1 l hg hw n a v x hn h0 h1) ⟨callB_of (Ts := Cond.code ms_yCh ms_cCh 2 (some .char) :: Ts) 2 hts (ms_good2 hg (hw _ (List.mem_of_getElem? (i := 15) rfl))) rfl rfl rfl (hts _ (List.mem_cons_of_mem _ (hw _ (List.mem_of_getElem? (i := 14) rfl)))) (hts _ (List.mem_cons_of_mem _ (hw _ (List.mem_of_getElem? (i := 12) rfl)))) (by decide +kernel) ⟨Nat.le_of_ble_eq_true rfl, Nat.le_of_ble_eq_true rfl⟩, (hts _ (List.mem_cons_of_mem _ (hw _ (List.mem_of_getElem? (i := 13) rfl))))⟩ ⟨fun b' U g mk q => ⟨q.1, ms_X.moved (u := U) (U := U.calling g mk b') (Vm.Alike.refl U.vm) q.2.1, by obtain ⟨f', hf'⟩ := q.2.2; exact ⟨f', va_T.moved (u := U) (U := U.calling g mk b') (Vm.Alike.refl U.vm) hf'⟩⟩, fun U hU hW => ⟨rfl, by show ms_X n a _ U U.heap; rw [hU]; exact ms_X.moved hW.alike ⟨hZ, hZq, hO, hC, v, f, hV, hT⟩, by show ∃ f : Nat → Int32, va_T .byte v n (fun j => .int (f j)) (fun _ => False) U U.heap; rw [hU]; exact ⟨f, hT.moved hW.alike⟩⟩⟩ rfl rfl (by exact hl.1) rfl (Nat.le_of_ble_eq_true rfl) ms_dCh_12 ⟨Nat.zero_le _, Nat.zero_le _⟩) (fun z hz => ?_)
  refine W.eq (g2 := F0 m 15 ls [.int z]) rfl ?_
  exact W.zret hx hb hr hz (fun t ht _ => ⟨z, rfl, hz, ht⟩) hS.2.2 ms_dCh_15
end MSM
