/-! the law: its cases -/
theorem lw_case0 {Ln : Nat} {xs : Nat → Int32} (i : Int32) (hi : 0 ≤ i.toInt ∧ i.toInt + 7 ≤ (Ln : Int) ∧ Ln ≤ 3584) (h : mm_h) (hJ : iv_J h) (mc ms : Nat) (hk : mc ≤ 500000 ∧ ms ≤ 7000000) (nx : ∀ (h1 : mm_h) (mc1 ms1 : Nat), iv_J h1 → mc1 ≤ mc + 3 → ms1 ≤ ms + 850 → lw_W lw_cs Ln xs (1454, lw_L i, [], h1, mc1, ms1)) : lw_W lw_cs Ln xs (216, lw_L i, [], h, mc, ms) := by
  refine lw_al dl_216 rfl rfl ?_
  refine lw_arg dl_217 dl_218 dl_219 dl_220 dl_221 (by decide) hi ?_
  refine lw_arg dl_222 dl_223 dl_224 dl_225 dl_226 (by decide) hi ?_
  refine lw_arg dl_227 dl_228 dl_229 dl_230 dl_231 (by decide) hi ?_
  refine lw_han 13 13 0 ck_m13 hc_xstone [xs (i + Int32.ofInt 1).toInt.toNat, xs (i + Int32.ofInt 2).toInt.toNat, xs (i + Int32.ofInt 3).toInt.toNat] [] dl_232 ml12_13 rfl (List.Mem.tail _ (List.Mem.tail _ (List.Mem.head _))) rfl rfl (by decide) ⟨_, _, rfl, rfl, rfl⟩ rfl (Nat.le_of_ble_eq_true rfl) ⟨by decide, by decide⟩ hJ.1 ⟨by show mc + 0 ≤ 600000; omega, by show ms + 0 ≤ 7302250; omega⟩ ⟨⟨_, _, _, rfl⟩, hJ.1⟩ (fun r h' a => ⟨(hp_xstone a).1, (hp_xstone a).2.1⟩) (fun v1 h1 hI1 ho1 => ?_)
  show lw_W lw_cs Ln xs (235, lw_L i, [mm_I v1], h1, mc, ms)
  refine lw_pop dl_235 ?_
  refine lw_al dl_236 rfl rfl ?_
  refine lw_arg dl_237 dl_238 dl_239 dl_240 dl_241 (by decide) hi ?_
  refine lw_arg dl_242 dl_243 dl_244 dl_245 dl_246 (by decide) hi ?_
  refine lw_arg dl_247 dl_248 dl_249 dl_250 dl_251 (by decide) hi ?_
  refine lw_han 17 178 77 ck_m178 hc_mstone [xs (i + Int32.ofInt 1).toInt.toNat, xs (i + Int32.ofInt 2).toInt.toNat, xs (i + Int32.ofInt 3).toInt.toNat] [] dl_252 ml12_17 rfl (List.Mem.tail _ (List.Mem.tail _ (List.Mem.tail _ (List.Mem.head _)))) rfl rfl (by decide) ⟨_, _, rfl, rfl, rfl⟩ rfl (Nat.le_of_ble_eq_true rfl) ⟨by decide, by decide⟩ hI1 ⟨by show mc + 0 ≤ 600000; omega, by show ms + 0 ≤ 7302250; omega⟩ ⟨⟨_, _, _, rfl⟩, hI1⟩ (fun r h' a => ⟨(hp_mstone a).1, (hp_mstone a).2.1⟩) (fun v2 h2 hI2 ho2 => ?_)
  show lw_W lw_cs Ln xs (255, lw_L i, [mm_I v2], h2, mc, ms)
  refine lw_pop dl_255 ?_
  refine lw_gt (t := 1454) dl_256 (by decide) ?_
  exact nx _ _ _ (jj_stone hJ ((hp_xstone ho1).2.2 _ _ _ rfl) ((hp_mstone ho2).2.2 _ _ _ rfl) hI2).1 (by omega) (by omega)
theorem lw_case1 {Ln : Nat} {xs : Nat → Int32} (i : Int32) (hi : 0 ≤ i.toInt ∧ i.toInt + 7 ≤ (Ln : Int) ∧ Ln ≤ 3584) (h : mm_h) (hJ : iv_J h) (mc ms : Nat) (hk : mc ≤ 500000 ∧ ms ≤ 7000000) (nx : ∀ (h1 : mm_h) (mc1 ms1 : Nat), iv_J h1 → mc1 ≤ mc + 3 → ms1 ≤ ms + 850 → lw_W lw_cs Ln xs (1454, lw_L i, [], h1, mc1, ms1)) : lw_W lw_cs Ln xs (259, lw_L i, [], h, mc, ms) := by
  refine lw_al dl_259 rfl rfl ?_
  refine lw_arg dl_260 dl_261 dl_262 dl_263 dl_264 (by decide) hi ?_
  refine lw_arg dl_265 dl_266 dl_267 dl_268 dl_269 (by decide) hi ?_
  refine lw_arg dl_270 dl_271 dl_272 dl_273 dl_274 (by decide) hi ?_
  refine lw_arg dl_275 dl_276 dl_277 dl_278 dl_279 (by decide) hi ?_
  refine lw_han 18 18 0 ck_m18 hc_xplane [xs (i + Int32.ofInt 1).toInt.toNat, xs (i + Int32.ofInt 2).toInt.toNat, xs (i + Int32.ofInt 3).toInt.toNat, xs (i + Int32.ofInt 4).toInt.toNat] [] dl_280 ml12_18 rfl (List.Mem.tail _ (List.Mem.tail _ (List.Mem.tail _ (List.Mem.tail _ (List.Mem.head _))))) rfl rfl (by decide) ⟨_, _, rfl, rfl, rfl⟩ rfl (Nat.le_of_ble_eq_true rfl) ⟨by decide, by decide⟩ hJ.1 ⟨by show mc + 0 ≤ 600000; omega, by show ms + 0 ≤ 7302250; omega⟩ ⟨⟨_, _, _, _, rfl⟩, hJ.1⟩ (fun r h' a => ⟨(hp_xplane a).1, (hp_xplane a).2.1⟩) (fun v1 h1 hI1 ho1 => ?_)
  show lw_W lw_cs Ln xs (283, lw_L i, [mm_I v1], h1, mc, ms)
  refine lw_pop dl_283 ?_
  refine lw_al dl_284 rfl rfl ?_
  refine lw_arg dl_285 dl_286 dl_287 dl_288 dl_289 (by decide) hi ?_
  refine lw_arg dl_290 dl_291 dl_292 dl_293 dl_294 (by decide) hi ?_
  refine lw_arg dl_295 dl_296 dl_297 dl_298 dl_299 (by decide) hi ?_
  refine lw_arg dl_300 dl_301 dl_302 dl_303 dl_304 (by decide) hi ?_
  refine lw_han 22 180 77 ck_m180 hc_mplane [xs (i + Int32.ofInt 1).toInt.toNat, xs (i + Int32.ofInt 2).toInt.toNat, xs (i + Int32.ofInt 3).toInt.toNat, xs (i + Int32.ofInt 4).toInt.toNat] [] dl_305 ml12_22 rfl (List.Mem.tail _ (List.Mem.tail _ (List.Mem.tail _ (List.Mem.tail _ (List.Mem.tail _ (List.Mem.head _)))))) rfl rfl (by decide) ⟨_, _, rfl, rfl, rfl⟩ rfl (Nat.le_of_ble_eq_true rfl) ⟨by decide, by decide⟩ hI1 ⟨by show mc + 0 ≤ 600000; omega, by show ms + 0 ≤ 7302250; omega⟩ ⟨⟨_, _, _, _, rfl⟩, hI1⟩ (fun r h' a => ⟨(hp_mplane a).1, (hp_mplane a).2.1⟩) (fun v2 h2 hI2 ho2 => ?_)
  show lw_W lw_cs Ln xs (308, lw_L i, [mm_I v2], h2, mc, ms)
  refine lw_pop dl_308 ?_
  refine lw_gt (t := 1454) dl_309 (by decide) ?_
  exact nx _ _ _ (jj_plane hJ ((hp_xplane ho1).2.2 _ _ _ _ rfl) ((hp_mplane ho2).2.2 _ _ _ _ rfl) hI2).1 (by omega) (by omega)
theorem lw_case2 {Ln : Nat} {xs : Nat → Int32} (i : Int32) (hi : 0 ≤ i.toInt ∧ i.toInt + 7 ≤ (Ln : Int) ∧ Ln ≤ 3584) (h : mm_h) (hJ : iv_J h) (mc ms : Nat) (hk : mc ≤ 500000 ∧ ms ≤ 7000000) (nx : ∀ (h1 : mm_h) (mc1 ms1 : Nat), iv_J h1 → mc1 ≤ mc + 3 → ms1 ≤ ms + 850 → lw_W lw_cs Ln xs (1454, lw_L i, [], h1, mc1, ms1)) : lw_W lw_cs Ln xs (312, lw_L i, [], h, mc, ms) := by
  refine lw_al dl_312 rfl rfl ?_
  refine lw_arg dl_313 dl_314 dl_315 dl_316 dl_317 (by decide) hi ?_
  refine lw_arg dl_318 dl_319 dl_320 dl_321 dl_322 (by decide) hi ?_
  refine lw_han 23 23 0 ck_m23 hc_xpoint [xs (i + Int32.ofInt 1).toInt.toNat, xs (i + Int32.ofInt 2).toInt.toNat] [] dl_323 ml12_23 rfl (List.Mem.tail _ (List.Mem.tail _ (List.Mem.tail _ (List.Mem.tail _ (List.Mem.tail _ (List.Mem.tail _ (List.Mem.head _))))))) rfl rfl (by decide) ⟨_, _, rfl, rfl, rfl⟩ rfl (Nat.le_of_ble_eq_true rfl) ⟨by decide, by decide⟩ hJ.1 ⟨by show mc + 0 ≤ 600000; omega, by show ms + 0 ≤ 7302250; omega⟩ ⟨⟨_, _, rfl⟩, hJ.1⟩ (fun r h' a => ⟨(hp_xpoint a).1, (hp_xpoint a).2.1⟩) (fun v1 h1 hI1 ho1 => ?_)
  show lw_W lw_cs Ln xs (326, lw_L i, [mm_I v1], h1, mc, ms)
  refine lw_pop dl_326 ?_
  refine lw_al dl_327 rfl rfl ?_
  refine lw_arg dl_328 dl_329 dl_330 dl_331 dl_332 (by decide) hi ?_
  refine lw_arg dl_333 dl_334 dl_335 dl_336 dl_337 (by decide) hi ?_
  refine lw_han 27 183 77 ck_m183 hc_mpoint [xs (i + Int32.ofInt 1).toInt.toNat, xs (i + Int32.ofInt 2).toInt.toNat] [] dl_338 ml12_27 rfl (List.Mem.tail _ (List.Mem.tail _ (List.Mem.tail _ (List.Mem.tail _ (List.Mem.tail _ (List.Mem.tail _ (List.Mem.tail _ (List.Mem.head _)))))))) rfl rfl (by decide) ⟨_, _, rfl, rfl, rfl⟩ rfl (Nat.le_of_ble_eq_true rfl) ⟨by decide, by decide⟩ hI1 ⟨by show mc + 0 ≤ 600000; omega, by show ms + 0 ≤ 7302250; omega⟩ ⟨⟨_, _, rfl⟩, hI1⟩ (fun r h' a => ⟨(hp_mpoint a).1, (hp_mpoint a).2.1⟩) (fun v2 h2 hI2 ho2 => ?_)
  show lw_W lw_cs Ln xs (341, lw_L i, [mm_I v2], h2, mc, ms)
  refine lw_pop dl_341 ?_
  refine lw_gt (t := 1454) dl_342 (by decide) ?_
  exact nx _ _ _ (jj_point hJ ((hp_xpoint ho1).2.2 _ _ rfl) ((hp_mpoint ho2).2.2 _ _ rfl) hI2).1 (by omega) (by omega)
theorem lw_case3 {Ln : Nat} {xs : Nat → Int32} (i : Int32) (hi : 0 ≤ i.toInt ∧ i.toInt + 7 ≤ (Ln : Int) ∧ Ln ≤ 3584) (h : mm_h) (hJ : iv_J h) (mc ms : Nat) (hk : mc ≤ 500000 ∧ ms ≤ 7000000) (nx : ∀ (h1 : mm_h) (mc1 ms1 : Nat), iv_J h1 → mc1 ≤ mc + 3 → ms1 ≤ ms + 850 → lw_W lw_cs Ln xs (1454, lw_L i, [], h1, mc1, ms1)) : lw_W lw_cs Ln xs (345, lw_L i, [], h, mc, ms) := by
  refine lw_al dl_345 rfl rfl ?_
  refine lw_arg dl_346 dl_347 dl_348 dl_349 dl_350 (by decide) hi ?_
  refine lw_arg dl_351 dl_352 dl_353 dl_354 dl_355 (by decide) hi ?_
  refine lw_han 28 24 0 ck_m24 hc_xknown [xs (i + Int32.ofInt 1).toInt.toNat, xs (i + Int32.ofInt 2).toInt.toNat] [] dl_356 ml12_28 rfl (List.Mem.tail _ (List.Mem.tail _ (List.Mem.tail _ (List.Mem.tail _ (List.Mem.tail _ (List.Mem.tail _ (List.Mem.tail _ (List.Mem.tail _ (List.Mem.head _))))))))) rfl rfl (by decide) ⟨_, _, rfl, rfl, rfl⟩ rfl (Nat.le_of_ble_eq_true rfl) ⟨by decide, by decide⟩ hJ.1 ⟨by show mc + 0 ≤ 600000; omega, by show ms + 0 ≤ 7302250; omega⟩ ⟨⟨_, _, rfl⟩, hJ.1⟩ (fun r h' a => ⟨(hp_xknown a).1, (hp_xknown a).2.1⟩) (fun v1 h1 hI1 ho1 => ?_)
  show lw_W lw_cs Ln xs (359, lw_L i, [mm_I v1], h1, mc, ms)
  refine lw_al dl_359 rfl rfl ?_
  refine lw_arg dl_360 dl_361 dl_362 dl_363 dl_364 (by decide) hi ?_
  refine lw_arg dl_365 dl_366 dl_367 dl_368 dl_369 (by decide) hi ?_
  refine lw_han 31 184 77 ck_m184 hc_mknown [xs (i + Int32.ofInt 1).toInt.toNat, xs (i + Int32.ofInt 2).toInt.toNat] [mm_I v1] dl_370 ml12_31 rfl (List.Mem.tail _ (List.Mem.tail _ (List.Mem.tail _ (List.Mem.tail _ (List.Mem.tail _ (List.Mem.tail _ (List.Mem.tail _ (List.Mem.tail _ (List.Mem.tail _ (List.Mem.head _)))))))))) rfl rfl (by decide) ⟨_, _, rfl, rfl, rfl⟩ rfl (Nat.le_of_ble_eq_true rfl) ⟨by decide, by decide⟩ hI1 ⟨by show mc + 0 ≤ 600000; omega, by show ms + 0 ≤ 7302250; omega⟩ ⟨⟨_, _, rfl⟩, hI1⟩ (fun r h' a => ⟨(hp_mknown a).1, (hp_mknown a).2.1⟩) (fun v2 h2 hI2 ho2 => ?_)
  show lw_W lw_cs Ln xs (373, lw_L i, [mm_I v2, mm_I v1], h2, mc, ms)
  refine lw_cmp (t := 1454) dl_373 (by decide) (fun _ => ?_) (fun z => ?_)
  · exact nx _ _ _ (jj_known hJ ((hp_xknown ho1).2.2 _ _ rfl) ((hp_mknown ho2).2.2 _ _ rfl) hI2).1 (by omega) (by omega)
  · exact absurd (jj_known hJ ((hp_xknown ho1).2.2 _ _ rfl) ((hp_mknown ho2).2.2 _ _ rfl) hI2).2 z
theorem lw_case4 {Ln : Nat} {xs : Nat → Int32} (i : Int32) (hi : 0 ≤ i.toInt ∧ i.toInt + 7 ≤ (Ln : Int) ∧ Ln ≤ 3584) (h : mm_h) (hJ : iv_J h) (mc ms : Nat) (hk : mc ≤ 500000 ∧ ms ≤ 7000000) (nx : ∀ (h1 : mm_h) (mc1 ms1 : Nat), iv_J h1 → mc1 ≤ mc + 3 → ms1 ≤ ms + 850 → lw_W lw_cs Ln xs (1454, lw_L i, [], h1, mc1, ms1)) : lw_W lw_cs Ln xs (378, lw_L i, [], h, mc, ms) := by
  refine lw_al dl_378 rfl rfl ?_
  refine lw_arg dl_379 dl_380 dl_381 dl_382 dl_383 (by decide) hi ?_
  refine lw_arg dl_384 dl_385 dl_386 dl_387 dl_388 (by decide) hi ?_
  refine lw_arg dl_389 dl_390 dl_391 dl_392 dl_393 (by decide) hi ?_
  refine lw_tabJ 32 25 0 ck_m25 ct_X_hand [xs (i + Int32.ofInt 1).toInt.toNat, xs (i + Int32.ofInt 2).toInt.toNat, xs (i + Int32.ofInt 3).toInt.toNat] [] dl_394 ml12_32 rfl (List.Mem.tail _ (List.Mem.tail _ (List.Mem.tail _ (List.Mem.tail _ (List.Mem.tail _ (List.Mem.tail _ (List.Mem.tail _ (List.Mem.tail _ (List.Mem.tail _ (List.Mem.tail _ (List.Mem.head _))))))))))) rfl ⟨rfl, rfl⟩ rfl (by decide) ⟨_, _, rfl, rfl, rfl⟩ rfl (Nat.le_of_ble_eq_true rfl) ⟨by decide, by decide⟩ rfl cs_X_hand (by decide +kernel) (by decide +kernel) hJ.1 ⟨by show mc ≤ 600000; omega, by show ms ≤ 7302250; omega⟩ (fun v1 h1 hI1 hk1 ho1 => ?_)
  refine lw_pop dl_397 ?_
  refine lw_al dl_398 rfl rfl ?_
  refine lw_arg dl_399 dl_400 dl_401 dl_402 dl_403 (by decide) hi ?_
  refine lw_arg dl_404 dl_405 dl_406 dl_407 dl_408 (by decide) hi ?_
  refine lw_arg dl_409 dl_410 dl_411 dl_412 dl_413 (by decide) hi ?_
  refine lw_tabJ 35 185 77 ck_m185 ct_M_hand [xs (i + Int32.ofInt 1).toInt.toNat, xs (i + Int32.ofInt 2).toInt.toNat, xs (i + Int32.ofInt 3).toInt.toNat] [] dl_414 ml12_35 rfl (List.Mem.tail _ (List.Mem.tail _ (List.Mem.tail _ (List.Mem.tail _ (List.Mem.tail _ (List.Mem.tail _ (List.Mem.tail _ (List.Mem.tail _ (List.Mem.tail _ (List.Mem.tail _ (List.Mem.tail _ (List.Mem.head _)))))))))))) rfl ⟨rfl, rfl⟩ rfl (by decide) ⟨_, _, rfl, rfl, rfl⟩ rfl (Nat.le_of_ble_eq_true rfl) ⟨by decide, by decide⟩ rfl cs_M_hand (by decide +kernel) (by decide +kernel) hI1 ⟨by show mc ≤ 600000; omega, by show ms ≤ 7302250; omega⟩ (fun v2 h2 hI2 hk2 ho2 => ?_)
  refine lw_pop dl_417 ?_
  refine lw_gt (t := 1454) dl_418 (by decide) ?_
  exact nx _ _ _ (hJ.on hI2 (hk1.tr hk2)) (by omega) (by omega)
theorem lw_case5 {Ln : Nat} {xs : Nat → Int32} (i : Int32) (hi : 0 ≤ i.toInt ∧ i.toInt + 7 ≤ (Ln : Int) ∧ Ln ≤ 3584) (h : mm_h) (hJ : iv_J h) (mc ms : Nat) (hk : mc ≤ 500000 ∧ ms ≤ 7000000) (nx : ∀ (h1 : mm_h) (mc1 ms1 : Nat), iv_J h1 → mc1 ≤ mc + 3 → ms1 ≤ ms + 850 → lw_W lw_cs Ln xs (1454, lw_L i, [], h1, mc1, ms1)) : lw_W lw_cs Ln xs (421, lw_L i, [], h, mc, ms) := by
  refine lw_al dl_421 rfl rfl ?_
  refine lw_arg dl_422 dl_423 dl_424 dl_425 dl_426 (by decide) hi ?_
  refine lw_tabJ 36 27 0 ck_m27 ct_X_seed [xs (i + Int32.ofInt 1).toInt.toNat] [] dl_427 ml12_36 rfl (List.Mem.tail _ (List.Mem.tail _ (List.Mem.tail _ (List.Mem.tail _ (List.Mem.tail _ (List.Mem.tail _ (List.Mem.tail _ (List.Mem.tail _ (List.Mem.tail _ (List.Mem.tail _ (List.Mem.tail _ (List.Mem.tail _ (List.Mem.head _))))))))))))) rfl ⟨rfl, rfl⟩ rfl (by decide) ⟨_, _, rfl, rfl, rfl⟩ rfl (Nat.le_of_ble_eq_true rfl) ⟨by decide, by decide⟩ rfl cs_X_seed (by decide +kernel) (by decide +kernel) hJ.1 ⟨by show mc ≤ 600000; omega, by show ms ≤ 7302250; omega⟩ (fun v1 h1 hI1 hk1 ho1 => ?_)
  refine lw_pop dl_430 ?_
  refine lw_al dl_431 rfl rfl ?_
  refine lw_arg dl_432 dl_433 dl_434 dl_435 dl_436 (by decide) hi ?_
  refine lw_tabJ 40 186 77 ck_m186 ct_M_seed [xs (i + Int32.ofInt 1).toInt.toNat] [] dl_437 ml12_40 rfl (List.Mem.tail _ (List.Mem.tail _ (List.Mem.tail _ (List.Mem.tail _ (List.Mem.tail _ (List.Mem.tail _ (List.Mem.tail _ (List.Mem.tail _ (List.Mem.tail _ (List.Mem.tail _ (List.Mem.tail _ (List.Mem.tail _ (List.Mem.tail _ (List.Mem.head _)))))))))))))) rfl ⟨rfl, rfl⟩ rfl (by decide) ⟨_, _, rfl, rfl, rfl⟩ rfl (Nat.le_of_ble_eq_true rfl) ⟨by decide, by decide⟩ rfl cs_M_seed (by decide +kernel) (by decide +kernel) hI1 ⟨by show mc ≤ 600000; omega, by show ms ≤ 7302250; omega⟩ (fun v2 h2 hI2 hk2 ho2 => ?_)
  refine lw_pop dl_440 ?_
  refine lw_gt (t := 1454) dl_441 (by decide) ?_
  exact nx _ _ _ (hJ.on hI2 (hk1.tr hk2)) (by omega) (by omega)
theorem lw_case6 {Ln : Nat} {xs : Nat → Int32} (i : Int32) (hi : 0 ≤ i.toInt ∧ i.toInt + 7 ≤ (Ln : Int) ∧ Ln ≤ 3584) (h : mm_h) (hJ : iv_J h) (mc ms : Nat) (hk : mc ≤ 500000 ∧ ms ≤ 7000000) (nx : ∀ (h1 : mm_h) (mc1 ms1 : Nat), iv_J h1 → mc1 ≤ mc + 3 → ms1 ≤ ms + 850 → lw_W lw_cs Ln xs (1454, lw_L i, [], h1, mc1, ms1)) : lw_W lw_cs Ln xs (444, lw_L i, [], h, mc, ms) := by
  refine lw_al dl_444 rfl rfl ?_
  refine lw_arg dl_445 dl_446 dl_447 dl_448 dl_449 (by decide) hi ?_
  refine lw_arg dl_450 dl_451 dl_452 dl_453 dl_454 (by decide) hi ?_
  refine lw_arg dl_455 dl_456 dl_457 dl_458 dl_459 (by decide) hi ?_
  refine lw_arg dl_460 dl_461 dl_462 dl_463 dl_464 (by decide) hi ?_
  refine lw_arg dl_465 dl_466 dl_467 dl_468 dl_469 (by decide) hi ?_
  refine lw_tabJ 41 28 0 ck_m28 ct_X_feed [xs (i + Int32.ofInt 1).toInt.toNat, xs (i + Int32.ofInt 2).toInt.toNat, xs (i + Int32.ofInt 3).toInt.toNat, xs (i + Int32.ofInt 4).toInt.toNat, xs (i + Int32.ofInt 5).toInt.toNat] [] dl_470 ml12_41 rfl (List.Mem.tail _ (List.Mem.tail _ (List.Mem.tail _ (List.Mem.tail _ (List.Mem.tail _ (List.Mem.tail _ (List.Mem.tail _ (List.Mem.tail _ (List.Mem.tail _ (List.Mem.tail _ (List.Mem.tail _ (List.Mem.tail _ (List.Mem.tail _ (List.Mem.tail _ (List.Mem.head _))))))))))))))) rfl ⟨rfl, rfl⟩ rfl (by decide) ⟨_, _, rfl, rfl, rfl⟩ rfl (Nat.le_of_ble_eq_true rfl) ⟨by decide, by decide⟩ rfl cs_X_feed (by decide +kernel) (by decide +kernel) hJ.1 ⟨by show mc ≤ 600000; omega, by show ms ≤ 7302250; omega⟩ (fun v1 h1 hI1 hk1 ho1 => ?_)
  refine lw_pop dl_473 ?_
  refine lw_al dl_474 rfl rfl ?_
  refine lw_arg dl_475 dl_476 dl_477 dl_478 dl_479 (by decide) hi ?_
  refine lw_arg dl_480 dl_481 dl_482 dl_483 dl_484 (by decide) hi ?_
  refine lw_arg dl_485 dl_486 dl_487 dl_488 dl_489 (by decide) hi ?_
  refine lw_arg dl_490 dl_491 dl_492 dl_493 dl_494 (by decide) hi ?_
  refine lw_arg dl_495 dl_496 dl_497 dl_498 dl_499 (by decide) hi ?_
  refine lw_tabJ 45 187 77 ck_m187 ct_M_feed [xs (i + Int32.ofInt 1).toInt.toNat, xs (i + Int32.ofInt 2).toInt.toNat, xs (i + Int32.ofInt 3).toInt.toNat, xs (i + Int32.ofInt 4).toInt.toNat, xs (i + Int32.ofInt 5).toInt.toNat] [] dl_500 ml12_45 rfl (List.Mem.tail _ (List.Mem.tail _ (List.Mem.tail _ (List.Mem.tail _ (List.Mem.tail _ (List.Mem.tail _ (List.Mem.tail _ (List.Mem.tail _ (List.Mem.tail _ (List.Mem.tail _ (List.Mem.tail _ (List.Mem.tail _ (List.Mem.tail _ (List.Mem.tail _ (List.Mem.tail _ (List.Mem.head _)))))))))))))))) rfl ⟨rfl, rfl⟩ rfl (by decide) ⟨_, _, rfl, rfl, rfl⟩ rfl (Nat.le_of_ble_eq_true rfl) ⟨by decide, by decide⟩ rfl cs_M_feed (by decide +kernel) (by decide +kernel) hI1 ⟨by show mc ≤ 600000; omega, by show ms ≤ 7302250; omega⟩ (fun v2 h2 hI2 hk2 ho2 => ?_)
  refine lw_pop dl_503 ?_
  refine lw_gt (t := 1454) dl_504 (by decide) ?_
  exact nx _ _ _ (hJ.on hI2 (hk1.tr hk2)) (by omega) (by omega)
theorem lw_case7 {Ln : Nat} {xs : Nat → Int32} (i : Int32) (hi : 0 ≤ i.toInt ∧ i.toInt + 7 ≤ (Ln : Int) ∧ Ln ≤ 3584) (h : mm_h) (hJ : iv_J h) (mc ms : Nat) (hk : mc ≤ 500000 ∧ ms ≤ 7000000) (nx : ∀ (h1 : mm_h) (mc1 ms1 : Nat), iv_J h1 → mc1 ≤ mc + 3 → ms1 ≤ ms + 850 → lw_W lw_cs Ln xs (1454, lw_L i, [], h1, mc1, ms1)) : lw_W lw_cs Ln xs (507, lw_L i, [], h, mc, ms) := by
  refine lw_al dl_507 rfl rfl ?_
  refine lw_arg dl_508 dl_509 dl_510 dl_511 dl_512 (by decide) hi ?_
  refine lw_tabJ 46 30 0 ck_m30 ct_X_end [xs (i + Int32.ofInt 1).toInt.toNat] [] dl_513 ml12_46 rfl (List.Mem.tail _ (List.Mem.tail _ (List.Mem.tail _ (List.Mem.tail _ (List.Mem.tail _ (List.Mem.tail _ (List.Mem.tail _ (List.Mem.tail _ (List.Mem.tail _ (List.Mem.tail _ (List.Mem.tail _ (List.Mem.tail _ (List.Mem.tail _ (List.Mem.tail _ (List.Mem.tail _ (List.Mem.tail _ (List.Mem.head _))))))))))))))))) rfl ⟨rfl, rfl⟩ rfl (by decide) ⟨_, _, rfl, rfl, rfl⟩ rfl (Nat.le_of_ble_eq_true rfl) ⟨by decide, by decide⟩ rfl cs_X_end (by decide +kernel) (by decide +kernel) hJ.1 ⟨by show mc ≤ 600000; omega, by show ms ≤ 7302250; omega⟩ (fun v1 h1 hI1 hk1 ho1 => ?_)
  refine lw_pop dl_516 ?_
  refine lw_al dl_517 rfl rfl ?_
  refine lw_arg dl_518 dl_519 dl_520 dl_521 dl_522 (by decide) hi ?_
  refine lw_tabJ 49 188 77 ck_m188 ct_M_end [xs (i + Int32.ofInt 1).toInt.toNat] [] dl_523 ml12_49 rfl (List.Mem.tail _ (List.Mem.tail _ (List.Mem.tail _ (List.Mem.tail _ (List.Mem.tail _ (List.Mem.tail _ (List.Mem.tail _ (List.Mem.tail _ (List.Mem.tail _ (List.Mem.tail _ (List.Mem.tail _ (List.Mem.tail _ (List.Mem.tail _ (List.Mem.tail _ (List.Mem.tail _ (List.Mem.tail _ (List.Mem.tail _ (List.Mem.head _)))))))))))))))))) rfl ⟨rfl, rfl⟩ rfl (by decide) ⟨_, _, rfl, rfl, rfl⟩ rfl (Nat.le_of_ble_eq_true rfl) ⟨by decide, by decide⟩ rfl cs_M_end (by decide +kernel) (by decide +kernel) hI1 ⟨by show mc ≤ 600000; omega, by show ms ≤ 7302250; omega⟩ (fun v2 h2 hI2 hk2 ho2 => ?_)
  refine lw_pop dl_526 ?_
  refine lw_gt (t := 1454) dl_527 (by decide) ?_
  exact nx _ _ _ (hJ.on hI2 (hk1.tr hk2)) (by omega) (by omega)
theorem lw_case8 {Ln : Nat} {xs : Nat → Int32} (i : Int32) (hi : 0 ≤ i.toInt ∧ i.toInt + 7 ≤ (Ln : Int) ∧ Ln ≤ 3584) (h : mm_h) (hJ : iv_J h) (mc ms : Nat) (hk : mc ≤ 500000 ∧ ms ≤ 7000000) (nx : ∀ (h1 : mm_h) (mc1 ms1 : Nat), iv_J h1 → mc1 ≤ mc + 3 → ms1 ≤ ms + 850 → lw_W lw_cs Ln xs (1454, lw_L i, [], h1, mc1, ms1)) : lw_W lw_cs Ln xs (530, lw_L i, [], h, mc, ms) := by
  refine lw_al dl_530 rfl rfl ?_
  refine lw_han 50 31 0 ck_m31 hc_ctext [] [] dl_531 ml12_50 rfl (List.Mem.tail _ (List.Mem.tail _ (List.Mem.tail _ (List.Mem.tail _ (List.Mem.tail _ (List.Mem.tail _ (List.Mem.tail _ (List.Mem.tail _ (List.Mem.tail _ (List.Mem.tail _ (List.Mem.tail _ (List.Mem.tail _ (List.Mem.tail _ (List.Mem.tail _ (List.Mem.tail _ (List.Mem.tail _ (List.Mem.tail _ (List.Mem.tail _ (List.Mem.head _))))))))))))))))))) rfl rfl (by decide) ⟨_, _, rfl, rfl, rfl⟩ rfl (Nat.le_of_ble_eq_true rfl) ⟨by decide, by decide⟩ hJ.1 ⟨by show mc + 3 ≤ 600000; omega, by show ms + 850 ≤ 7302250; omega⟩ ⟨rfl, hJ.1⟩ (fun r h' a => ⟨(hp_ctext a).1, (hp_ctext a).2.1⟩) (fun v1 h1 hI1 ho1 => ?_)
  show lw_W lw_cs Ln xs (534, lw_L i, [mm_I v1], h1, mc + 3, ms + 850)
  refine lw_pop dl_534 ?_
  refine lw_al dl_535 rfl rfl ?_
  refine lw_han 54 189 77 ck_m189 hc_mtext [] [] dl_536 ml12_54 rfl (List.Mem.tail _ (List.Mem.tail _ (List.Mem.tail _ (List.Mem.tail _ (List.Mem.tail _ (List.Mem.tail _ (List.Mem.tail _ (List.Mem.tail _ (List.Mem.tail _ (List.Mem.tail _ (List.Mem.tail _ (List.Mem.tail _ (List.Mem.tail _ (List.Mem.tail _ (List.Mem.tail _ (List.Mem.tail _ (List.Mem.tail _ (List.Mem.tail _ (List.Mem.tail _ (List.Mem.head _)))))))))))))))))))) rfl rfl (by decide) ⟨_, _, rfl, rfl, rfl⟩ rfl (Nat.le_of_ble_eq_true rfl) ⟨by decide, by decide⟩ hI1 ⟨by show mc + 3 + 0 ≤ 600000; omega, by show ms + 850 + 0 ≤ 7302250; omega⟩ ⟨rfl, hI1⟩ (fun r h' a => ⟨(hp_mtext a).1, (hp_mtext a).2.1⟩) (fun v2 h2 hI2 ho2 => ?_)
  show lw_W lw_cs Ln xs (539, lw_L i, [mm_I v2], h2, mc + 3, ms + 850)
  refine lw_pop dl_539 ?_
  refine lw_gt (t := 1454) dl_540 (by decide) ?_
  exact nx _ _ _ (hJ.on hI2 ((hp_ctext ho1).2.2.tr (hp_mtext ho2).2.2)) (by omega) (by omega)
theorem lw_case9 {Ln : Nat} {xs : Nat → Int32} (i : Int32) (hi : 0 ≤ i.toInt ∧ i.toInt + 7 ≤ (Ln : Int) ∧ Ln ≤ 3584) (h : mm_h) (hJ : iv_J h) (mc ms : Nat) (hk : mc ≤ 500000 ∧ ms ≤ 7000000) (nx : ∀ (h1 : mm_h) (mc1 ms1 : Nat), iv_J h1 → mc1 ≤ mc + 3 → ms1 ≤ ms + 850 → lw_W lw_cs Ln xs (1454, lw_L i, [], h1, mc1, ms1)) : lw_W lw_cs Ln xs (543, lw_L i, [], h, mc, ms) := by
  refine lw_al dl_543 rfl rfl ?_
  refine lw_tabJ 55 59 0 ck_m59 ct_X_fault [] [] dl_544 ml12_55 rfl (List.Mem.tail _ (List.Mem.tail _ (List.Mem.tail _ (List.Mem.tail _ (List.Mem.tail _ (List.Mem.tail _ (List.Mem.tail _ (List.Mem.tail _ (List.Mem.tail _ (List.Mem.tail _ (List.Mem.tail _ (List.Mem.tail _ (List.Mem.tail _ (List.Mem.tail _ (List.Mem.tail _ (List.Mem.tail _ (List.Mem.tail _ (List.Mem.tail _ (List.Mem.tail _ (List.Mem.tail _ (List.Mem.head _))))))))))))))))))))) rfl ⟨rfl, rfl⟩ rfl (by decide) ⟨_, _, rfl, rfl, rfl⟩ rfl (Nat.le_of_ble_eq_true rfl) ⟨by decide, by decide⟩ rfl cs_X_fault (by decide +kernel) (by decide +kernel) hJ.1 ⟨by show mc ≤ 600000; omega, by show ms ≤ 7302250; omega⟩ (fun v1 h1 hI1 hk1 ho1 => ?_)
  refine lw_pop dl_547 ?_
  refine lw_al dl_548 rfl rfl ?_
  refine lw_tabJ 58 209 77 ck_m209 ct_M_fault [] [] dl_549 ml12_58 rfl (List.Mem.tail _ (List.Mem.tail _ (List.Mem.tail _ (List.Mem.tail _ (List.Mem.tail _ (List.Mem.tail _ (List.Mem.tail _ (List.Mem.tail _ (List.Mem.tail _ (List.Mem.tail _ (List.Mem.tail _ (List.Mem.tail _ (List.Mem.tail _ (List.Mem.tail _ (List.Mem.tail _ (List.Mem.tail _ (List.Mem.tail _ (List.Mem.tail _ (List.Mem.tail _ (List.Mem.tail _ (List.Mem.tail _ (List.Mem.head _)))))))))))))))))))))) rfl ⟨rfl, rfl⟩ rfl (by decide) ⟨_, _, rfl, rfl, rfl⟩ rfl (Nat.le_of_ble_eq_true rfl) ⟨by decide, by decide⟩ rfl cs_M_fault (by decide +kernel) (by decide +kernel) hI1 ⟨by show mc ≤ 600000; omega, by show ms ≤ 7302250; omega⟩ (fun v2 h2 hI2 hk2 ho2 => ?_)
  refine lw_pop dl_552 ?_
  refine lw_gt (t := 1454) dl_553 (by decide) ?_
  exact nx _ _ _ (hJ.on hI2 (hk1.tr hk2)) (by omega) (by omega)
theorem lw_case10 {Ln : Nat} {xs : Nat → Int32} (i : Int32) (hi : 0 ≤ i.toInt ∧ i.toInt + 7 ≤ (Ln : Int) ∧ Ln ≤ 3584) (h : mm_h) (hJ : iv_J h) (mc ms : Nat) (hk : mc ≤ 500000 ∧ ms ≤ 7000000) (nx : ∀ (h1 : mm_h) (mc1 ms1 : Nat), iv_J h1 → mc1 ≤ mc + 3 → ms1 ≤ ms + 850 → lw_W lw_cs Ln xs (1454, lw_L i, [], h1, mc1, ms1)) : lw_W lw_cs Ln xs (556, lw_L i, [], h, mc, ms) := by
  refine lw_al dl_556 rfl rfl ?_
  refine lw_arg dl_557 dl_558 dl_559 dl_560 dl_561 (by decide) hi ?_
  refine lw_tabJ 59 60 0 ck_m60 ct_X_law [xs (i + Int32.ofInt 1).toInt.toNat] [] dl_562 ml12_59 rfl (List.Mem.tail _ (List.Mem.tail _ (List.Mem.tail _ (List.Mem.tail _ (List.Mem.tail _ (List.Mem.tail _ (List.Mem.tail _ (List.Mem.tail _ (List.Mem.tail _ (List.Mem.tail _ (List.Mem.tail _ (List.Mem.tail _ (List.Mem.tail _ (List.Mem.tail _ (List.Mem.tail _ (List.Mem.tail _ (List.Mem.tail _ (List.Mem.tail _ (List.Mem.tail _ (List.Mem.tail _ (List.Mem.tail _ (List.Mem.tail _ (List.Mem.head _))))))))))))))))))))))) rfl ⟨rfl, rfl⟩ rfl (by decide) ⟨_, _, rfl, rfl, rfl⟩ rfl (Nat.le_of_ble_eq_true rfl) ⟨by decide, by decide⟩ rfl cs_X_law (by decide +kernel) (by decide +kernel) hJ.1 ⟨by show mc ≤ 600000; omega, by show ms ≤ 7302250; omega⟩ (fun v1 h1 hI1 hk1 ho1 => ?_)
  refine lw_pop dl_565 ?_
  refine lw_al dl_566 rfl rfl ?_
  refine lw_arg dl_567 dl_568 dl_569 dl_570 dl_571 (by decide) hi ?_
  refine lw_tabJ 62 210 77 ck_m210 ct_M_law [xs (i + Int32.ofInt 1).toInt.toNat] [] dl_572 ml12_62 rfl (List.Mem.tail _ (List.Mem.tail _ (List.Mem.tail _ (List.Mem.tail _ (List.Mem.tail _ (List.Mem.tail _ (List.Mem.tail _ (List.Mem.tail _ (List.Mem.tail _ (List.Mem.tail _ (List.Mem.tail _ (List.Mem.tail _ (List.Mem.tail _ (List.Mem.tail _ (List.Mem.tail _ (List.Mem.tail _ (List.Mem.tail _ (List.Mem.tail _ (List.Mem.tail _ (List.Mem.tail _ (List.Mem.tail _ (List.Mem.tail _ (List.Mem.tail _ (List.Mem.head _)))))))))))))))))))))))) rfl ⟨rfl, rfl⟩ rfl (by decide) ⟨_, _, rfl, rfl, rfl⟩ rfl (Nat.le_of_ble_eq_true rfl) ⟨by decide, by decide⟩ rfl cs_M_law (by decide +kernel) (by decide +kernel) hI1 ⟨by show mc ≤ 600000; omega, by show ms ≤ 7302250; omega⟩ (fun v2 h2 hI2 hk2 ho2 => ?_)
  refine lw_pop dl_575 ?_
  refine lw_gt (t := 1454) dl_576 (by decide) ?_
  exact nx _ _ _ (hJ.on hI2 (hk1.tr hk2)) (by omega) (by omega)
theorem lw_case11 {Ln : Nat} {xs : Nat → Int32} (i : Int32) (hi : 0 ≤ i.toInt ∧ i.toInt + 7 ≤ (Ln : Int) ∧ Ln ≤ 3584) (h : mm_h) (hJ : iv_J h) (mc ms : Nat) (hk : mc ≤ 500000 ∧ ms ≤ 7000000) (nx : ∀ (h1 : mm_h) (mc1 ms1 : Nat), iv_J h1 → mc1 ≤ mc + 3 → ms1 ≤ ms + 850 → lw_W lw_cs Ln xs (1454, lw_L i, [], h1, mc1, ms1)) : lw_W lw_cs Ln xs (579, lw_L i, [], h, mc, ms) := by
  refine lw_al dl_579 rfl rfl ?_
  refine lw_arg dl_580 dl_581 dl_582 dl_583 dl_584 (by decide) hi ?_
  refine lw_arg dl_585 dl_586 dl_587 dl_588 dl_589 (by decide) hi ?_
  refine lw_arg dl_590 dl_591 dl_592 dl_593 dl_594 (by decide) hi ?_
  refine lw_arg dl_595 dl_596 dl_597 dl_598 dl_599 (by decide) hi ?_
  refine lw_tabJ 63 61 0 ck_m61 ct_X_cuts [xs (i + Int32.ofInt 1).toInt.toNat, xs (i + Int32.ofInt 2).toInt.toNat, xs (i + Int32.ofInt 3).toInt.toNat, xs (i + Int32.ofInt 4).toInt.toNat] [] dl_600 ml12_63 rfl (List.Mem.tail _ (List.Mem.tail _ (List.Mem.tail _ (List.Mem.tail _ (List.Mem.tail _ (List.Mem.tail _ (List.Mem.tail _ (List.Mem.tail _ (List.Mem.tail _ (List.Mem.tail _ (List.Mem.tail _ (List.Mem.tail _ (List.Mem.tail _ (List.Mem.tail _ (List.Mem.tail _ (List.Mem.tail _ (List.Mem.tail _ (List.Mem.tail _ (List.Mem.tail _ (List.Mem.tail _ (List.Mem.tail _ (List.Mem.tail _ (List.Mem.tail _ (List.Mem.tail _ (List.Mem.head _))))))))))))))))))))))))) rfl ⟨rfl, rfl⟩ rfl (by decide) ⟨_, _, rfl, rfl, rfl⟩ rfl (Nat.le_of_ble_eq_true rfl) ⟨by decide, by decide⟩ rfl cs_X_cuts (by decide +kernel) (by decide +kernel) hJ.1 ⟨by show mc ≤ 600000; omega, by show ms ≤ 7302250; omega⟩ (fun v1 h1 hI1 hk1 ho1 => ?_)
  refine lw_pop dl_603 ?_
  refine lw_al dl_604 rfl rfl ?_
  refine lw_arg dl_605 dl_606 dl_607 dl_608 dl_609 (by decide) hi ?_
  refine lw_arg dl_610 dl_611 dl_612 dl_613 dl_614 (by decide) hi ?_
  refine lw_arg dl_615 dl_616 dl_617 dl_618 dl_619 (by decide) hi ?_
  refine lw_arg dl_620 dl_621 dl_622 dl_623 dl_624 (by decide) hi ?_
  refine lw_tabJ 66 212 77 ck_m212 ct_M_cuts [xs (i + Int32.ofInt 1).toInt.toNat, xs (i + Int32.ofInt 2).toInt.toNat, xs (i + Int32.ofInt 3).toInt.toNat, xs (i + Int32.ofInt 4).toInt.toNat] [] dl_625 ml12_66 rfl (List.Mem.tail _ (List.Mem.tail _ (List.Mem.tail _ (List.Mem.tail _ (List.Mem.tail _ (List.Mem.tail _ (List.Mem.tail _ (List.Mem.tail _ (List.Mem.tail _ (List.Mem.tail _ (List.Mem.tail _ (List.Mem.tail _ (List.Mem.tail _ (List.Mem.tail _ (List.Mem.tail _ (List.Mem.tail _ (List.Mem.tail _ (List.Mem.tail _ (List.Mem.tail _ (List.Mem.tail _ (List.Mem.tail _ (List.Mem.tail _ (List.Mem.tail _ (List.Mem.tail _ (List.Mem.tail _ (List.Mem.head _)))))))))))))))))))))))))) rfl ⟨rfl, rfl⟩ rfl (by decide) ⟨_, _, rfl, rfl, rfl⟩ rfl (Nat.le_of_ble_eq_true rfl) ⟨by decide, by decide⟩ rfl cs_M_cuts (by decide +kernel) (by decide +kernel) hI1 ⟨by show mc ≤ 600000; omega, by show ms ≤ 7302250; omega⟩ (fun v2 h2 hI2 hk2 ho2 => ?_)
  refine lw_pop dl_628 ?_
  refine lw_gt (t := 1454) dl_629 (by decide) ?_
  exact nx _ _ _ (hJ.on hI2 (hk1.tr hk2)) (by omega) (by omega)
theorem lw_case12 {Ln : Nat} {xs : Nat → Int32} (i : Int32) (hi : 0 ≤ i.toInt ∧ i.toInt + 7 ≤ (Ln : Int) ∧ Ln ≤ 3584) (h : mm_h) (hJ : iv_J h) (mc ms : Nat) (hk : mc ≤ 500000 ∧ ms ≤ 7000000) (nx : ∀ (h1 : mm_h) (mc1 ms1 : Nat), iv_J h1 → mc1 ≤ mc + 3 → ms1 ≤ ms + 850 → lw_W lw_cs Ln xs (1454, lw_L i, [], h1, mc1, ms1)) : lw_W lw_cs Ln xs (632, lw_L i, [], h, mc, ms) := by
  refine lw_al dl_632 rfl rfl ?_
  refine lw_arg dl_633 dl_634 dl_635 dl_636 dl_637 (by decide) hi ?_
  refine lw_arg dl_638 dl_639 dl_640 dl_641 dl_642 (by decide) hi ?_
  refine lw_arg dl_643 dl_644 dl_645 dl_646 dl_647 (by decide) hi ?_
  refine lw_arg dl_648 dl_649 dl_650 dl_651 dl_652 (by decide) hi ?_
  refine lw_arg dl_653 dl_654 dl_655 dl_656 dl_657 (by decide) hi ?_
  refine lw_arg6 dl_658 dl_659 dl_660 dl_662 dl_663 hi ?_
  refine lw_tabJ 67 71 0 ck_m71 ct_X_trial [xs (i + Int32.ofInt 1).toInt.toNat, xs (i + Int32.ofInt 2).toInt.toNat, xs (i + Int32.ofInt 3).toInt.toNat, xs (i + Int32.ofInt 4).toInt.toNat, xs (i + Int32.ofInt 5).toInt.toNat, xs (i + (Int8.ofInt 6).toInt32).toInt.toNat] [] dl_664 ml12_67 rfl (List.Mem.tail _ (List.Mem.tail _ (List.Mem.tail _ (List.Mem.tail _ (List.Mem.tail _ (List.Mem.tail _ (List.Mem.tail _ (List.Mem.tail _ (List.Mem.tail _ (List.Mem.tail _ (List.Mem.tail _ (List.Mem.tail _ (List.Mem.tail _ (List.Mem.tail _ (List.Mem.tail _ (List.Mem.tail _ (List.Mem.tail _ (List.Mem.tail _ (List.Mem.tail _ (List.Mem.tail _ (List.Mem.tail _ (List.Mem.tail _ (List.Mem.tail _ (List.Mem.tail _ (List.Mem.tail _ (List.Mem.tail _ (List.Mem.head _))))))))))))))))))))))))))) rfl ⟨rfl, rfl⟩ rfl (by decide) ⟨_, _, rfl, rfl, rfl⟩ rfl (Nat.le_of_ble_eq_true rfl) ⟨by decide, by decide⟩ rfl cs_X_trial (by decide +kernel) (by decide +kernel) hJ.1 ⟨by show mc ≤ 600000; omega, by show ms ≤ 7302250; omega⟩ (fun v1 h1 hI1 hk1 ho1 => ?_)
  refine lw_pop dl_667 ?_
  refine lw_al dl_668 rfl rfl ?_
  refine lw_arg dl_669 dl_670 dl_671 dl_672 dl_673 (by decide) hi ?_
  refine lw_arg dl_674 dl_675 dl_676 dl_677 dl_678 (by decide) hi ?_
  refine lw_arg dl_679 dl_680 dl_681 dl_682 dl_683 (by decide) hi ?_
  refine lw_arg dl_684 dl_685 dl_686 dl_687 dl_688 (by decide) hi ?_
  refine lw_arg dl_689 dl_690 dl_691 dl_692 dl_693 (by decide) hi ?_
  refine lw_arg6 dl_694 dl_695 dl_696 dl_698 dl_699 hi ?_
  refine lw_tabJ 71 228 77 ck_m228 ct_M_trial [xs (i + Int32.ofInt 1).toInt.toNat, xs (i + Int32.ofInt 2).toInt.toNat, xs (i + Int32.ofInt 3).toInt.toNat, xs (i + Int32.ofInt 4).toInt.toNat, xs (i + Int32.ofInt 5).toInt.toNat, xs (i + (Int8.ofInt 6).toInt32).toInt.toNat] [] dl_700 ml12_71 rfl (List.Mem.tail _ (List.Mem.tail _ (List.Mem.tail _ (List.Mem.tail _ (List.Mem.tail _ (List.Mem.tail _ (List.Mem.tail _ (List.Mem.tail _ (List.Mem.tail _ (List.Mem.tail _ (List.Mem.tail _ (List.Mem.tail _ (List.Mem.tail _ (List.Mem.tail _ (List.Mem.tail _ (List.Mem.tail _ (List.Mem.tail _ (List.Mem.tail _ (List.Mem.tail _ (List.Mem.tail _ (List.Mem.tail _ (List.Mem.tail _ (List.Mem.tail _ (List.Mem.tail _ (List.Mem.tail _ (List.Mem.tail _ (List.Mem.tail _ (List.Mem.head _)))))))))))))))))))))))))))) rfl ⟨rfl, rfl⟩ rfl (by decide) ⟨_, _, rfl, rfl, rfl⟩ rfl (Nat.le_of_ble_eq_true rfl) ⟨by decide, by decide⟩ rfl cs_M_trial (by decide +kernel) (by decide +kernel) hI1 ⟨by show mc ≤ 600000; omega, by show ms ≤ 7302250; omega⟩ (fun v2 h2 hI2 hk2 ho2 => ?_)
  refine lw_pop dl_703 ?_
  refine lw_gt (t := 1454) dl_704 (by decide) ?_
  exact nx _ _ _ (hJ.on hI2 (hk1.tr hk2)) (by omega) (by omega)
theorem lw_case13 {Ln : Nat} {xs : Nat → Int32} (i : Int32) (hi : 0 ≤ i.toInt ∧ i.toInt + 7 ≤ (Ln : Int) ∧ Ln ≤ 3584) (h : mm_h) (hJ : iv_J h) (mc ms : Nat) (hk : mc ≤ 500000 ∧ ms ≤ 7000000) (nx : ∀ (h1 : mm_h) (mc1 ms1 : Nat), iv_J h1 → mc1 ≤ mc + 3 → ms1 ≤ ms + 850 → lw_W lw_cs Ln xs (1454, lw_L i, [], h1, mc1, ms1)) : lw_W lw_cs Ln xs (707, lw_L i, [], h, mc, ms) := by
  refine lw_al dl_707 rfl rfl ?_
  refine lw_tabJ 72 76 0 ck_m76 ct_X_row [] [] dl_708 ml12_72 rfl (List.Mem.tail _ (List.Mem.tail _ (List.Mem.tail _ (List.Mem.tail _ (List.Mem.tail _ (List.Mem.tail _ (List.Mem.tail _ (List.Mem.tail _ (List.Mem.tail _ (List.Mem.tail _ (List.Mem.tail _ (List.Mem.tail _ (List.Mem.tail _ (List.Mem.tail _ (List.Mem.tail _ (List.Mem.tail _ (List.Mem.tail _ (List.Mem.tail _ (List.Mem.tail _ (List.Mem.tail _ (List.Mem.tail _ (List.Mem.tail _ (List.Mem.tail _ (List.Mem.tail _ (List.Mem.tail _ (List.Mem.tail _ (List.Mem.tail _ (List.Mem.tail _ (List.Mem.head _))))))))))))))))))))))))))))) rfl ⟨rfl, rfl⟩ rfl (by decide) ⟨_, _, rfl, rfl, rfl⟩ rfl (Nat.le_of_ble_eq_true rfl) ⟨by decide, by decide⟩ rfl cs_X_row (by decide +kernel) (by decide +kernel) hJ.1 ⟨by show mc ≤ 600000; omega, by show ms ≤ 7302250; omega⟩ (fun v1 h1 hI1 hk1 ho1 => ?_)
  refine lw_pop dl_711 ?_
  refine lw_al dl_712 rfl rfl ?_
  refine lw_tabJ 75 231 77 ck_m231 ct_M_row [] [] dl_713 ml12_75 rfl (List.Mem.tail _ (List.Mem.tail _ (List.Mem.tail _ (List.Mem.tail _ (List.Mem.tail _ (List.Mem.tail _ (List.Mem.tail _ (List.Mem.tail _ (List.Mem.tail _ (List.Mem.tail _ (List.Mem.tail _ (List.Mem.tail _ (List.Mem.tail _ (List.Mem.tail _ (List.Mem.tail _ (List.Mem.tail _ (List.Mem.tail _ (List.Mem.tail _ (List.Mem.tail _ (List.Mem.tail _ (List.Mem.tail _ (List.Mem.tail _ (List.Mem.tail _ (List.Mem.tail _ (List.Mem.tail _ (List.Mem.tail _ (List.Mem.tail _ (List.Mem.tail _ (List.Mem.tail _ (List.Mem.head _)))))))))))))))))))))))))))))) rfl ⟨rfl, rfl⟩ rfl (by decide) ⟨_, _, rfl, rfl, rfl⟩ rfl (Nat.le_of_ble_eq_true rfl) ⟨by decide, by decide⟩ rfl cs_M_row (by decide +kernel) (by decide +kernel) hI1 ⟨by show mc ≤ 600000; omega, by show ms ≤ 7302250; omega⟩ (fun v2 h2 hI2 hk2 ho2 => ?_)
  refine lw_pop dl_716 ?_
  refine lw_gt (t := 1454) dl_717 (by decide) ?_
  exact nx _ _ _ (hJ.on hI2 (hk1.tr hk2)) (by omega) (by omega)
