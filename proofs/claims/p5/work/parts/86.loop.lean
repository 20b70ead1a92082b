/-! the law: its loop, its beginning -/
set_option maxRecDepth 20000 in
theorem lw_loop {Ln : Nat} {xs : Nat → Int32} (hL : Ln ≤ 3584) : ∀ (d t : Nat) (i : Int32) (h : mm_h) (mc ms : Nat), t + d = 513 → i.toInt = 7 * t → iv_J h → mc ≤ 200 + 3 * t → ms ≤ 200000 + 850 * t → lw_W lw_cs Ln xs (18, lw_L i, [], h, mc, ms) := by
  have eL : (Int32.ofNat Ln).toInt = Ln := nI_toInt (n := Ln) (by omega)
  have e7 : (Int8.ofInt 7).toInt32.toInt = 7 := by decide
  have k7 : (Int32.ofInt 7).toInt = 7 := by decide
  have es : (Int32.ofNat Ln - (Int8.ofInt 7).toInt32).toInt = Ln - 7 := by rw [ck_subI (by omega) (by omega), eL, e7]
  intro d
  induction d with
  | zero =>
    intro t i h mc ms ht hi hJ h1 h2
    refine lw_il dl_18 rfl (lw_al dl_19 rfl rfl (lw_len dl_20 (lw_bp dl_21 (lw_sub dl_23 (lw_cmp (t := 1460) dl_24 (by decide) (fun _ => ?_) (fun z => ?_))))))
    · exact lw_ic dl_1460 (lw_rt (by decide) dl_1461 (by omega) (by omega))
    · have z' : i.toInt ≤ (Int32.ofNat Ln - (Int8.ofInt 7).toInt32).toInt := z
      omega
  | succ d ih =>
    intro t i h mc ms ht hi0 hJ h1 h2
    refine lw_il dl_18 rfl (lw_al dl_19 rfl rfl (lw_len dl_20 (lw_bp dl_21 (lw_sub dl_23 (lw_cmp (t := 1460) dl_24 (by decide) (fun _ => ?_) (fun z => ?_))))))
    · exact lw_ic dl_1460 (lw_rt (by decide) dl_1461 (by omega) (by omega))
    · have z' : i.toInt ≤ (Int32.ofNat Ln - (Int8.ofInt 7).toInt32).toInt := z
      have hi : 0 ≤ i.toInt ∧ i.toInt + 7 ≤ (Ln : Int) ∧ Ln ≤ 3584 := by omega
      have hk : mc ≤ 500000 ∧ ms ≤ 7000000 := by omega
      have nx : ∀ (h1 : mm_h) (mc1 ms1 : Nat), iv_J h1 → mc1 ≤ mc + 3 → ms1 ≤ ms + 850 → lw_W lw_cs Ln xs (1454, lw_L i, [], h1, mc1, ms1) := fun h1' mc1 ms1 hJ1 a b => by
        have ei : (i + Int32.ofInt 7).toInt = i.toInt + 7 := by rw [ck_addI (by omega) (by omega), k7]
        refine lw_inc dl_1454 rfl (lw_gt (t := 18) dl_1457 (by decide) ?_)
        exact ih (t + 1) (i + Int32.ofInt 7) h1' mc1 ms1 (by omega) (by omega) hJ1 (by omega) (by omega)
      have cas : ∀ o ∈ ([183, 226, 279, 312, 345, 388, 411, 474, 497, 510, 523, 546, 599, 674, 687, 720, 743, 786, 819, 852, 865, 898, 921, 934, 947, 970, 993, 1026, 1049, 1082, 1115, 1148, 1171, 1194, 1227, 1260, 1303, 1326, 1339, 1362, 1385, 1408] : List Int), 0 ≤ (33 : Int) + o ∧ lw_W lw_cs Ln xs (ck_tg 33 o, lw_L i, [], h, mc, ms) := (ck_cons ⟨by decide, lw_case0 i hi h hJ mc ms hk nx⟩ (ck_cons ⟨by decide, lw_case1 i hi h hJ mc ms hk nx⟩ (ck_cons ⟨by decide, lw_case2 i hi h hJ mc ms hk nx⟩ (ck_cons ⟨by decide, lw_case3 i hi h hJ mc ms hk nx⟩ (ck_cons ⟨by decide, lw_case4 i hi h hJ mc ms hk nx⟩ (ck_cons ⟨by decide, lw_case5 i hi h hJ mc ms hk nx⟩ (ck_cons ⟨by decide, lw_case6 i hi h hJ mc ms hk nx⟩ (ck_cons ⟨by decide, lw_case7 i hi h hJ mc ms hk nx⟩ (ck_cons ⟨by decide, lw_case8 i hi h hJ mc ms hk nx⟩ (ck_cons ⟨by decide, lw_case9 i hi h hJ mc ms hk nx⟩ (ck_cons ⟨by decide, lw_case10 i hi h hJ mc ms hk nx⟩ (ck_cons ⟨by decide, lw_case11 i hi h hJ mc ms hk nx⟩ (ck_cons ⟨by decide, lw_case12 i hi h hJ mc ms hk nx⟩ (ck_cons ⟨by decide, lw_case13 i hi h hJ mc ms hk nx⟩ (ck_cons ⟨by decide, lw_case14 i hi h hJ mc ms hk nx⟩ (ck_cons ⟨by decide, lw_case15 i hi h hJ mc ms hk nx⟩ (ck_cons ⟨by decide, lw_case16 i hi h hJ mc ms hk nx⟩ (ck_cons ⟨by decide, lw_case17 i hi h hJ mc ms hk nx⟩ (ck_cons ⟨by decide, lw_case18 i hi h hJ mc ms hk nx⟩ (ck_cons ⟨by decide, lw_case19 i hi h hJ mc ms hk nx⟩ (ck_cons ⟨by decide, lw_case20 i hi h hJ mc ms hk nx⟩ (ck_cons ⟨by decide, lw_case21 i hi h hJ mc ms hk nx⟩ (ck_cons ⟨by decide, lw_case22 i hi h hJ mc ms hk nx⟩ (ck_cons ⟨by decide, lw_case23 i hi h hJ mc ms hk nx⟩ (ck_cons ⟨by decide, lw_case24 i hi h hJ mc ms hk nx⟩ (ck_cons ⟨by decide, lw_case25 i hi h hJ mc ms hk nx⟩ (ck_cons ⟨by decide, lw_case26 i hi h hJ mc ms hk nx⟩ (ck_cons ⟨by decide, lw_case27 i hi h hJ mc ms hk nx⟩ (ck_cons ⟨by decide, lw_case28 i hi h hJ mc ms hk nx⟩ (ck_cons ⟨by decide, lw_case29 i hi h hJ mc ms hk nx⟩ (ck_cons ⟨by decide, lw_case30 i hi h hJ mc ms hk nx⟩ (ck_cons ⟨by decide, lw_case31 i hi h hJ mc ms hk nx⟩ (ck_cons ⟨by decide, lw_case32 i hi h hJ mc ms hk nx⟩ (ck_cons ⟨by decide, lw_case33 i hi h hJ mc ms hk nx⟩ (ck_cons ⟨by decide, lw_case34 i hi h hJ mc ms hk nx⟩ (ck_cons ⟨by decide, lw_case35 i hi h hJ mc ms hk nx⟩ (ck_cons ⟨by decide, lw_case36 i hi h hJ mc ms hk nx⟩ (ck_cons ⟨by decide, lw_case37 i hi h hJ mc ms hk nx⟩ (ck_cons ⟨by decide, lw_case38 i hi h hJ mc ms hk nx⟩ (ck_cons ⟨by decide, lw_case39 i hi h hJ mc ms hk nx⟩ (ck_cons ⟨by decide, lw_case40 i hi h hJ mc ms hk nx⟩ (ck_cons ⟨by decide, lw_case41 i hi h hJ mc ms hk nx⟩ ck_nil))))))))))))))))))))))))))))))))))))))))))
      refine lw_al dl_27 rfl rfl (lw_il dl_28 rfl (lw_ild dl_29 hi.1 (by omega) (lw_bp dl_30 (lw_and dl_32 ?_))))
      refine lw_W.of (Or.inr ⟨_, dl_33, .inr (.inr (.inr (.inr (.inl ⟨by decide, (by show (0 : Int) ≤ ((33 : Nat) : Int) + 1421; decide), fun _ => ?_, fun j o ho _ => cas o (List.mem_of_getElem? ho)⟩))))⟩)
      exact nx h mc ms hJ (by omega) (by omega)
