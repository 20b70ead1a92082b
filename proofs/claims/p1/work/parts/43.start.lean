/-! THE LAW FROM ITS ENTRY -/
theorem ck_okIn : ∀ (ci : Nat) (C : String) (T : u_T) (N : Nat), vwCl[ci]? = some (C, T, N) → Cond.instantiable C N ∈ ck_TS := by
  intro ci C T N h
  match ci, h with
  | 0, h => cases h; exact (ck_mem 153 (by decide +kernel) (by decide +kernel))
  | 1, h => cases h; exact (ck_mem 396 (by decide +kernel) (by decide +kernel))
  | 2, h => cases h; exact (ck_mem 457 (by decide +kernel) (by decide +kernel))
  | 3, h => cases h; exact (ck_mem 363 (by decide +kernel) (by decide +kernel))
  | 4, h => cases h; exact (ck_mem 317 (by decide +kernel) (by decide +kernel))
  | 5, h => cases h; exact (ck_mem 277 (by decide +kernel) (by decide +kernel))
  | 6, h => cases h; exact (ck_mem 422 (by decide +kernel) (by decide +kernel))
  | 7, h => cases h; exact (ck_mem 435 (by decide +kernel) (by decide +kernel))
  | 8, h => cases h; exact (ck_mem 259 (by decide +kernel) (by decide +kernel))
  | 9, h => cases h; exact (ck_mem 160 (by decide +kernel) (by decide +kernel))
  | 10, h => cases h; exact (ck_mem 334 (by decide +kernel) (by decide +kernel))
  | 11, h => cases h; exact (ck_mem 145 (by decide +kernel) (by decide +kernel))
  | 12, h => cases h; exact (ck_mem 1294 (by decide +kernel) (by decide +kernel))
  | k + 13, h => simp [vwCl] at h
theorem ck_lit {own tx : String} {x : Nat} {b : Nat} {s : State} (hts : ∀ w ∈ lw_tbl, w.before #[Value.ref b] s = true) (hgv : (Jvm.Cond.and given_1 narrow_1).before #[Value.ref b] s = true) (h1 : Cond.stringRef own x tx ∈ lw_tbl) (h2 : Cond.exactly (.string own x) "java/lang/String" ∈ flatC (Jvm.Cond.and given_1 narrow_1)) : ∃ a, ∃ tx, vk_R own x tx a s := by
  obtain ⟨a, c, cA, kA, q1, -⟩ := Cond.exactly_spec (args := #[Value.ref b]) (first := s) (o := none) (s := s) (idx := []) (t := .string own x) (cls := "java/lang/String") (flat_of_before _ hgv _ h2)
  exact ⟨a, tx, vk_R.of (hts _ h1) q1⟩
theorem ck_giR {ν : Nat → Int} {xs : Nat → Int32} (h : ∀ j, ν j = (xs j).toInt) (n : Nat) : ck_gi ν (List.replicate n ck_fI) := fun j q hq => by
  have e : q = ck_fI := by
    have := List.mem_of_getElem? hq
    exact (List.mem_replicate.mp this).2
  subst e
  rw [h j]
  have := ck_i32 (xs j)
  exact ⟨this.1, this.2, (fun z => by cases z), (fun z => by cases z)⟩
set_option maxHeartbeats 4000000 in
set_option maxRecDepth 100000 in
/-- THE LAW, from its entry -/
theorem whole_start {p : Program} {e : Env} {s : State} {m : MethodId} {below : List Frame} {meth : Method} {c : Code} (l : Launch) {b L : Nat} {xs : Nat → Int32} (hL : L ≤ 7) (C0 : lw_At p s m meth c b L xs) : W p l e room_1 s m #[Value.ref b] below meth c s.heap [] 0 0 (lw_Z below #[Value.ref b] s) (entryFrame m ([Value.ref b] : List Value).toArray 4) := by
  obtain ⟨hx, hb, hr, hml, hown, hts0, hX, hbl, hlocks, hgv⟩ := id C0
  have hts : ∀ w ∈ ck_TS, w.before #[Value.ref b] s = true := fun w h => hts0 w (List.mem_filter.mp h).1
  have hk : ∀ k : Nat, ∃ y : ClassId × (Nat → Nat), ∀ q, vwCl[k]? = some q → u_Kn s q.1 q.2.1 q.2.2 y.1 y.2 := fun k => by
    cases hq : vwCl[k]? with
    | none => exact ⟨(0, fun _ => 0), fun q h => by cases h⟩
    | some q =>
      obtain ⟨C, T, N⟩ := q
      obtain ⟨cC, iS, h1⟩ := u_known hts (ck_okCl k C T N hq).1 (hts _ (ck_okIn k C T N hq))
      exact ⟨(cC, iS), fun q h => by cases h; exact h1⟩
  obtain ⟨y, hy⟩ := Classical.axiomOfChoice hk
  obtain ⟨D, hDk⟩ : ∃ D : va_G, ∀ k q, vwCl[k]? = some q → u_Kn s q.1 q.2.1 q.2.2 (D.1 k) (D.2 k) := ⟨(fun k => (y k).1, fun k => (y k).2), hy⟩
  have hK : va_K D vwCl [] s := ⟨hDk, fun k q h => by simp at h⟩
  obtain ⟨a0, t0⟩ := ck_lit (own := "ScratchLadder$Reader") (tx := "rung") (x := 104) hts0 hgv (List.mem_of_getElem? (i := 611) (by decide +kernel)) (by decide +kernel)
  obtain ⟨a1, t1⟩ := ck_lit (own := "ScratchLadder$Reader") (tx := "cuts") (x := 127) hts0 hgv (List.mem_of_getElem? (i := 685) (by decide +kernel)) (by decide +kernel)
  obtain ⟨a2, t2⟩ := ck_lit (own := "ScratchLadder$Reader") (tx := "both") (x := 129) hts0 hgv (List.mem_of_getElem? (i := 686) (by decide +kernel)) (by decide +kernel)
  obtain ⟨a3, t3⟩ := ck_lit (own := "ScratchLadder$Reader") (tx := "deep") (x := 131) hts0 hgv (List.mem_of_getElem? (i := 687) (by decide +kernel)) (by decide +kernel)
  obtain ⟨a4, t4⟩ := ck_lit (own := "ScratchLadder$Reader") (tx := "dent") (x := 133) hts0 hgv (List.mem_of_getElem? (i := 688) (by decide +kernel)) (by decide +kernel)
  obtain ⟨st, hsb, hs0, hs1, hs2, hs3, hs4⟩ : ∃ st : Nat → Nat, st 900 = b ∧ st 0 = a0 ∧ st 1 = a1 ∧ st 2 = a2 ∧ st 3 = a3 ∧ st 4 = a4 := ⟨fun i => if i = 900 then b else if i = 0 then a0 else if i = 1 then a1 else if i = 2 then a2 else if i = 3 then a3 else if i = 4 then a4 else 0, rfl, rfl, rfl, rfl, rfl, rfl⟩
  rw [← hs0] at t0
  rw [← hs1] at t1
  rw [← hs2] at t2
  rw [← hs3] at t3
  rw [← hs4] at t4
  have hamb : ck_amb ck_NM ck_AO ck_SL st s := ⟨(ck_cons (va_Nw.of rfl (hts0 _ (List.mem_of_getElem? (i := 154) (by decide +kernel)))) (ck_cons (va_Nw.of rfl (hts0 _ (List.mem_of_getElem? (i := 260) (by decide +kernel)))) (ck_cons (va_Nw.of rfl (hts0 _ (List.mem_of_getElem? (i := 436) (by decide +kernel)))) (ck_cons (va_Nw.of rfl (hts0 _ (List.mem_of_getElem? (i := 548) (by decide +kernel)))) ck_nil)))), (ck_cons (va_AO.of (hts0 _ (List.mem_of_getElem? (i := 257) (by decide +kernel)))) (ck_cons (va_AO.of (hts0 _ (List.mem_of_getElem? (i := 159) (by decide +kernel)))) ck_nil)), (ck_cons t0 (ck_cons t1 (ck_cons t2 (ck_cons t3 (ck_cons t4 ck_nil)))))⟩
  have hl := lv_entry ([.ref b]) (n := 4) (Nat.le_of_ble_eq_true rfl)
  rw [lg_entry_eq]
  generalize (lg_sl ([.ref b]) ++ List.replicate (4 - (lg_sl ([.ref b])).length) Slot.unset).toArray = ls at hl ⊢
  have hG0 : ∀ n, ck_G D vwCl st ck_sh (fun q : Nat => s.heap.size ≤ q) s 4 ck_wrL [] (List.replicate n ck_fI) [(0, .inr (2, 900))] [] [] 0 (fun j => (xs j).toInt) [] [] s.heap [] ls [] := fun n =>
    ⟨ck_giR (fun _ => rfl) n, ⟨_, hl, fun q hq => by
      have eq := List.mem_singleton.mp hq
      subst eq
      exact ⟨.ref b, List.mem_cons_self, by show Value.ref b = Value.ref (st 900); rw [hsb]⟩⟩, trivial, (fun x hx => by cases hx), ⟨rfl, (fun i q h => by simp at h)⟩, hK, (fun k q h => by simp at h), ⟨(fun i j p q h => by simp at h), (fun k q h => by simp at h)⟩, va_S.rf, (fun i q h => by simp at h)⟩
  have hcP : ∀ co ∈ ck_csP, ck_Mt l D st co := (ck_cons (ck_k16 l D st) (ck_cons (ck_k17 l D st) ck_nil))
  rcases Nat.lt_or_ge L 7 with h7 | h7
  · exact ck_run_ok (n0 := L) (ν0 := fun j => (xs j).toInt) (ck_stepD_ok ck_dkP C0 hsb (fun _ _ => rfl) (Nat.le_refl _) hts ck_TSgood hamb ck_okCl ck_okT12 hcP) (fun x hx => by cases hx) 600 [] L 0 _ (ck_ls L h7) (fun j => (xs j).toInt) [] [] s.heap [] ls [] (Nat.le_refl _) (fun _ _ => rfl) (fun g hg => by cases hg) (hG0 L)
  · have e7 : L = 7 := by omega
    subst e7
    have leaf : ∀ {dt : List (Nat × Instr × Nat)} {cs : List ck_C} {pc : Nat} {sF : ck_S}, (∀ q ∈ dt, decode code q.1 = .ok q.2) → (∀ co ∈ cs, ck_Mt l D st co) → ck_run (ck_stepD dt vwCl ck_mts ck_sh ck_T12 cs ck_wrL 900 7) [] [] [] 600 [] 7 pc sF = true → ∀ (ν : Nat → Int) (ws : va_W) (tys : List (ClassId × FieldType)) (H : Heap) (locs : List Loc) (ls : Array Slot) (vs : List Value), (∀ j, j < 7 → ν j = (xs j).toInt) → ck_G D vwCl st ck_sh (fun q : Nat => s.heap.size ≤ q) s 4 ck_wrL [] sF.1 sF.2.1 sF.2.2.1 sF.2.2.2.1 sF.2.2.2.2.1 ν ws tys H locs ls vs → W p l e room_1 s m #[Value.ref b] below meth c H locs sF.2.2.2.2.2.1 sF.2.2.2.2.2.2 (lw_Z below #[Value.ref b] s) (F0 m pc ls vs) := fun {dt cs pc sF} hdt hcs hrun ν ws tys H locs ls vs hν hG =>
      ck_run_ok (n0 := 7) (ν0 := fun j => (xs j).toInt) (ck_stepD_ok hdt C0 hsb (fun _ _ => rfl) (Nat.le_refl _) hts ck_TSgood hamb ck_okCl ck_okT12 hcs) (fun x hx => by cases hx) 600 [] 7 pc sF hrun ν ws tys H locs ls vs (Nat.le_refl _) hν (fun g hg => by cases hg) hG
    have hc1454 : ∀ co ∈ ck_cs1454, ck_Mt l D st co := ck_nil
    have hc216 : ∀ co ∈ ck_cs216, ck_Mt l D st co := (ck_cons (ck_k24 l D st) (ck_cons (ck_k27 l D st) (ck_cons (ck_k29 l D st) (ck_cons (ck_k32 l D st) (ck_cons (ck_k34 l D st) (ck_cons (ck_k37 l D st) (ck_cons (ck_k39 l D st) (ck_cons (ck_k43 l D st) ck_nil))))))))
    have hc259 : ∀ co ∈ ck_cs259, ck_Mt l D st co := (ck_cons (ck_k51 l D st) (ck_cons (ck_k53 l D st) (ck_cons (ck_k55 l D st) (ck_cons (ck_k58 l D st) (ck_cons (ck_k60 l D st) (ck_cons (ck_k63 l D st) (ck_cons (ck_k65 l D st) (ck_cons (ck_k70 l D st) (ck_cons (ck_k73 l D st) ck_nil)))))))))
    have hc312 : ∀ co ∈ ck_cs312, ck_Mt l D st co := (ck_cons (ck_k74 l D st) (ck_cons (ck_k75 l D st) (ck_cons (ck_k76 l D st) (ck_cons (ck_k77 l D st) (ck_cons (ck_k78 l D st) ck_nil)))))
    have hc345 : ∀ co ∈ ck_cs345, ck_Mt l D st co := (ck_cons (ck_k81 l D st) (ck_cons (ck_k82 l D st) (ck_cons (ck_k83 l D st) (ck_cons (ck_k97 l D st) (ck_cons (ck_k99 l D st) (ck_cons (ck_k113 l D st) ck_nil))))))
    have hc378 : ∀ co ∈ ck_cs378, ck_Mt l D st co := (ck_cons (ck_k116 l D st) (ck_cons (ck_k117 l D st) (ck_cons (ck_k118 l D st) (ck_cons (ck_k120 l D st) (ck_cons (ck_k122 l D st) (ck_cons (ck_k124 l D st) (ck_cons (ck_k125 l D st) (ck_cons (ck_k126 l D st) ck_nil))))))))
    have hc421 : ∀ co ∈ ck_cs421, ck_Mt l D st co := (ck_cons (ck_k128 l D st) (ck_cons (ck_k130 l D st) (ck_cons (ck_k132 l D st) (ck_cons (ck_k134 l D st) ck_nil))))
    have hc444 : ∀ co ∈ ck_cs444, ck_Mt l D st co := (ck_cons (ck_k140 l D st) (ck_cons (ck_k141 l D st) ck_nil))
    have hc507 : ∀ co ∈ ck_cs507, ck_Mt l D st co := (ck_cons (ck_k143 l D st) (ck_cons (ck_k145 l D st) (ck_cons (ck_k147 l D st) (ck_cons (ck_k149 l D st) ck_nil))))
    have hc530 : ∀ co ∈ ck_cs530, ck_Mt l D st co := (ck_cons (ck_k163 l D st) (ck_cons (ck_k180 l D st) ck_nil))
    have hc543 : ∀ co ∈ ck_cs543, ck_Mt l D st co := (ck_cons (ck_k181 l D st) (ck_cons (ck_k182 l D st) ck_nil))
    have hc556 : ∀ co ∈ ck_cs556, ck_Mt l D st co := (ck_cons (ck_k183 l D st) (ck_cons (ck_k185 l D st) (ck_cons (ck_k187 l D st) ck_nil)))
    have hc579 : ∀ co ∈ ck_cs579, ck_Mt l D st co := (ck_cons (ck_k188 l D st) (ck_cons (ck_k189 l D st) (ck_cons (ck_k190 l D st) ck_nil)))
    have hc632 : ∀ co ∈ ck_cs632, ck_Mt l D st co := (ck_cons (ck_k191 l D st) (ck_cons (ck_k193 l D st) (ck_cons (ck_k195 l D st) (ck_cons (ck_k197 l D st) (ck_cons (ck_k199 l D st) (ck_cons (ck_k201 l D st) (ck_cons (ck_k202 l D st) (ck_cons (ck_k203 l D st) (ck_cons (ck_k204 l D st) (ck_cons (ck_k205 l D st) (ck_cons (ck_k206 l D st) ck_nil)))))))))))
    have hc707 : ∀ co ∈ ck_cs707, ck_Mt l D st co := (ck_cons (ck_k207 l D st) (ck_cons (ck_k208 l D st) ck_nil))
    have hc720 : ∀ co ∈ ck_cs720, ck_Mt l D st co := (ck_cons (ck_k210 l D st) (ck_cons (ck_k212 l D st) (ck_cons (ck_k214 l D st) ck_nil)))
    have hc753 : ∀ co ∈ ck_cs753, ck_Mt l D st co := (ck_cons (ck_k215 l D st) (ck_cons (ck_k216 l D st) (ck_cons (ck_k217 l D st) ck_nil)))
    have hc776 : ∀ co ∈ ck_cs776, ck_Mt l D st co := (ck_cons (ck_k220 l D st) (ck_cons (ck_k222 l D st) (ck_cons (ck_k224 l D st) (ck_cons (ck_k227 l D st) (ck_cons (ck_k229 l D st) (ck_cons (ck_k231 l D st) (ck_cons (ck_k232 l D st) (ck_cons (ck_k233 l D st) ck_nil))))))))
    have hc819 : ∀ co ∈ ck_cs819, ck_Mt l D st co := (ck_cons (ck_k235 l D st) (ck_cons (ck_k236 l D st) (ck_cons (ck_k237 l D st) ck_nil)))
    have hc852 : ∀ co ∈ ck_cs852, ck_Mt l D st co := (ck_cons (ck_k238 l D st) (ck_cons (ck_k239 l D st) (ck_cons (ck_k240 l D st) ck_nil)))
    have hc885 : ∀ co ∈ ck_cs885, ck_Mt l D st co := (ck_cons (ck_k250 l D st) (ck_cons (ck_k253 l D st) ck_nil))
    have hc898 : ∀ co ∈ ck_cs898, ck_Mt l D st co := (ck_cons (ck_k254 l D st) (ck_cons (ck_k255 l D st) (ck_cons (ck_k256 l D st) ck_nil)))
    have hc931 : ∀ co ∈ ck_cs931, ck_Mt l D st co := (ck_cons (ck_k257 l D st) (ck_cons (ck_k258 l D st) (ck_cons (ck_k259 l D st) ck_nil)))
    have hc954 : ∀ co ∈ ck_cs954, ck_Mt l D st co := (ck_cons (ck_k260 l D st) (ck_cons (ck_k261 l D st) ck_nil))
    have hc967 : ∀ co ∈ ck_cs967, ck_Mt l D st co := (ck_cons (ck_k266 l D st) (ck_cons (ck_k267 l D st) ck_nil))
    have hc980 : ∀ co ∈ ck_cs980, ck_Mt l D st co := (ck_cons (ck_k268 l D st) (ck_cons (ck_k270 l D st) (ck_cons (ck_k272 l D st) ck_nil)))
    have hc1003 : ∀ co ∈ ck_cs1003, ck_Mt l D st co := (ck_cons (ck_k273 l D st) (ck_cons (ck_k274 l D st) ck_nil))
    have hc1026 : ∀ co ∈ ck_cs1026, ck_Mt l D st co := (ck_cons (ck_k275 l D st) (ck_cons (ck_k276 l D st) (ck_cons (ck_k277 l D st) ck_nil)))
    have hc1059 : ∀ co ∈ ck_cs1059, ck_Mt l D st co := (ck_cons (ck_k278 l D st) (ck_cons (ck_k279 l D st) (ck_cons (ck_k280 l D st) ck_nil)))
    have hc1082 : ∀ co ∈ ck_cs1082, ck_Mt l D st co := (ck_cons (ck_k284 l D st) (ck_cons (ck_k287 l D st) (ck_cons (ck_k288 l D st) (ck_cons (ck_k289 l D st) (ck_cons (ck_k290 l D st) (ck_cons (ck_k291 l D st) ck_nil))))))
    have hc1115 : ∀ co ∈ ck_cs1115, ck_Mt l D st co := (ck_cons (ck_k293 l D st) (ck_cons (ck_k296 l D st) (ck_cons (ck_k298 l D st) (ck_cons (ck_k300 l D st) (ck_cons (ck_k304 l D st) ck_nil)))))
    have hc1148 : ∀ co ∈ ck_cs1148, ck_Mt l D st co := (ck_cons (ck_k305 l D st) (ck_cons (ck_k306 l D st) (ck_cons (ck_k307 l D st) (ck_cons (ck_k310 l D st) (ck_cons (ck_k312 l D st) ck_nil)))))
    have hc1181 : ∀ co ∈ ck_cs1181, ck_Mt l D st co := (ck_cons (ck_k313 l D st) (ck_cons (ck_k315 l D st) (ck_cons (ck_k316 l D st) ck_nil)))
    have hc1204 : ∀ co ∈ ck_cs1204, ck_Mt l D st co := (ck_cons (ck_k323 l D st) (ck_cons (ck_k324 l D st) (ck_cons (ck_k325 l D st) (ck_cons (ck_k327 l D st) (ck_cons (ck_k329 l D st) ck_nil)))))
    have hc1227 : ∀ co ∈ ck_cs1227, ck_Mt l D st co := (ck_cons (ck_k330 l D st) (ck_cons (ck_k331 l D st) (ck_cons (ck_k332 l D st) ck_nil)))
    have hc1260 : ∀ co ∈ ck_cs1260, ck_Mt l D st co := (ck_cons (ck_k333 l D st) (ck_cons (ck_k334 l D st) (ck_cons (ck_k335 l D st) (ck_cons (ck_k336 l D st) (ck_cons (ck_k337 l D st) (ck_cons (ck_k338 l D st) ck_nil))))))
    have hc1293 : ∀ co ∈ ck_cs1293, ck_Mt l D st co := (ck_cons (ck_k339 l D st) (ck_cons (ck_k340 l D st) (ck_cons (ck_k341 l D st) ck_nil)))
    have hc1336 : ∀ co ∈ ck_cs1336, ck_Mt l D st co := (ck_cons (ck_k343 l D st) (ck_cons (ck_k344 l D st) (ck_cons (ck_k345 l D st) (ck_cons (ck_k347 l D st) ck_nil))))
    have hc1359 : ∀ co ∈ ck_cs1359, ck_Mt l D st co := (ck_cons (ck_k348 l D st) (ck_cons (ck_k349 l D st) ck_nil))
    have hc1372 : ∀ co ∈ ck_cs1372, ck_Mt l D st co := (ck_cons (ck_k372 l D st) (ck_cons (ck_k373 l D st) (ck_cons (ck_k375 l D st) (ck_cons (ck_k376 l D st) (ck_cons (ck_k378 l D st) ck_nil)))))
    have hc1395 : ∀ co ∈ ck_cs1395, ck_Mt l D st co := (ck_cons (ck_k379 l D st) (ck_cons (ck_k380 l D st) (ck_cons (ck_k381 l D st) (ck_cons (ck_k382 l D st) ck_nil))))
    have hc1418 : ∀ co ∈ ck_cs1418, ck_Mt l D st co := (ck_cons (ck_k384 l D st) (ck_cons (ck_k385 l D st) (ck_cons (ck_k386 l D st) (ck_cons (ck_k387 l D st) (ck_cons (ck_k388 l D st) (ck_cons (ck_k389 l D st) (ck_cons (ck_k390 l D st) (ck_cons (ck_k391 l D st) ck_nil))))))))
    have hc1441 : ∀ co ∈ ck_cs1441, ck_Mt l D st co := (ck_cons (ck_k392 l D st) (ck_cons (ck_k393 l D st) ck_nil))
    exact ck_run_ok (n0 := 7) (ν0 := fun j => (xs j).toInt) (ck_stepD_ok ck_dkP C0 hsb (fun _ _ => rfl) (Nat.le_refl _) hts ck_TSgood hamb ck_okCl ck_okT12 hcP) (ck_cons (leaf ck_dk1454 hc1454 ck_lc1454) (ck_cons (leaf ck_dk216 hc216 ck_lc216) (ck_cons (leaf ck_dk259 hc259 ck_lc259) (ck_cons (leaf ck_dk312 hc312 ck_lc312) (ck_cons (leaf ck_dk345 hc345 ck_lc345) (ck_cons (leaf ck_dk378 hc378 ck_lc378) (ck_cons (leaf ck_dk421 hc421 ck_lc421) (ck_cons (leaf ck_dk444 hc444 ck_lc444) (ck_cons (leaf ck_dk507 hc507 ck_lc507) (ck_cons (leaf ck_dk530 hc530 ck_lc530) (ck_cons (leaf ck_dk543 hc543 ck_lc543) (ck_cons (leaf ck_dk556 hc556 ck_lc556) (ck_cons (leaf ck_dk579 hc579 ck_lc579) (ck_cons (leaf ck_dk632 hc632 ck_lc632) (ck_cons (leaf ck_dk707 hc707 ck_lc707) (ck_cons (leaf ck_dk720 hc720 ck_lc720) (ck_cons (leaf ck_dk753 hc753 ck_lc753) (ck_cons (leaf ck_dk776 hc776 ck_lc776) (ck_cons (leaf ck_dk819 hc819 ck_lc819) (ck_cons (leaf ck_dk852 hc852 ck_lc852) (ck_cons (leaf ck_dk885 hc885 ck_lc885) (ck_cons (leaf ck_dk898 hc898 ck_lc898) (ck_cons (leaf ck_dk931 hc931 ck_lc931) (ck_cons (leaf ck_dk954 hc954 ck_lc954) (ck_cons (leaf ck_dk967 hc967 ck_lc967) (ck_cons (leaf ck_dk980 hc980 ck_lc980) (ck_cons (leaf ck_dk1003 hc1003 ck_lc1003) (ck_cons (leaf ck_dk1026 hc1026 ck_lc1026) (ck_cons (leaf ck_dk1059 hc1059 ck_lc1059) (ck_cons (leaf ck_dk1082 hc1082 ck_lc1082) (ck_cons (leaf ck_dk1115 hc1115 ck_lc1115) (ck_cons (leaf ck_dk1148 hc1148 ck_lc1148) (ck_cons (leaf ck_dk1181 hc1181 ck_lc1181) (ck_cons (leaf ck_dk1204 hc1204 ck_lc1204) (ck_cons (leaf ck_dk1227 hc1227 ck_lc1227) (ck_cons (leaf ck_dk1260 hc1260 ck_lc1260) (ck_cons (leaf ck_dk1293 hc1293 ck_lc1293) (ck_cons (leaf ck_dk1336 hc1336 ck_lc1336) (ck_cons (leaf ck_dk1359 hc1359 ck_lc1359) (ck_cons (leaf ck_dk1372 hc1372 ck_lc1372) (ck_cons (leaf ck_dk1395 hc1395 ck_lc1395) (ck_cons (leaf ck_dk1418 hc1418 ck_lc1418) (ck_cons (leaf ck_dk1441 hc1441 ck_lc1441) ck_nil))))))))))))))))))))))))))))))))))))))))))) 600 [] 7 0 _ ck_lp (fun j => (xs j).toInt) [] [] s.heap [] ls [] (Nat.le_refl _) (fun _ _ => rfl) (fun g hg => by cases hg) (hG0 7)
