/-! case 345 -/
theorem ck_d345 : decode code 345 = .ok (.aload_n 1, 1) := by decide +kernel
theorem ck_d346 : decode code 346 = .ok (.aload_n 0, 1) := by decide +kernel
theorem ck_d347 : decode code 347 = .ok (.iload_n 3, 1) := by decide +kernel
theorem ck_d348 : decode code 348 = .ok (.iconst 1, 1) := by decide +kernel
theorem ck_d349 : decode code 349 = .ok (.iadd, 1) := by decide +kernel
theorem ck_d350 : decode code 350 = .ok (.iaload, 1) := by decide +kernel
theorem ck_d351 : decode code 351 = .ok (.aload_n 0, 1) := by decide +kernel
theorem ck_d352 : decode code 352 = .ok (.iload_n 3, 1) := by decide +kernel
theorem ck_d353 : decode code 353 = .ok (.iconst 2, 1) := by decide +kernel
theorem ck_d354 : decode code 354 = .ok (.iadd, 1) := by decide +kernel
theorem ck_d355 : decode code 355 = .ok (.iaload, 1) := by decide +kernel
theorem ck_d356 : decode code 356 = .ok (.invokevirtual 28, 3) := by decide +kernel
theorem ck_d359 : decode code 359 = .ok (.aload_n 2, 1) := by decide +kernel
theorem ck_d360 : decode code 360 = .ok (.aload_n 0, 1) := by decide +kernel
theorem ck_d361 : decode code 361 = .ok (.iload_n 3, 1) := by decide +kernel
theorem ck_d362 : decode code 362 = .ok (.iconst 1, 1) := by decide +kernel
theorem ck_d363 : decode code 363 = .ok (.iadd, 1) := by decide +kernel
theorem ck_d364 : decode code 364 = .ok (.iaload, 1) := by decide +kernel
theorem ck_d365 : decode code 365 = .ok (.aload_n 0, 1) := by decide +kernel
theorem ck_d366 : decode code 366 = .ok (.iload_n 3, 1) := by decide +kernel
theorem ck_d367 : decode code 367 = .ok (.iconst 2, 1) := by decide +kernel
theorem ck_d368 : decode code 368 = .ok (.iadd, 1) := by decide +kernel
theorem ck_d369 : decode code 369 = .ok (.iaload, 1) := by decide +kernel
theorem ck_d370 : decode code 370 = .ok (.invokevirtual 31, 3) := by decide +kernel
theorem ck_d373 : decode code 373 = .ok (.if_icmp .eq 1081, 3) := by decide +kernel
def ck_dt345 : List (Nat × Instr × Nat) := [(18, (.iload_n 3, 1)), (19, (.aload_n 0, 1)), (20, (.arraylength, 1)), (21, (.bipush 7, 2)), (23, (.isub, 1)), (24, (.if_icmp .gt 1436, 3)), (1454, (.iinc 3 7, 3)), (1457, (.goto (-1439), 3)), (1460, (.iconst 1, 1)), (1461, (.ireturn, 1)), (345, (.aload_n 1, 1)), (346, (.aload_n 0, 1)), (347, (.iload_n 3, 1)), (348, (.iconst 1, 1)), (349, (.iadd, 1)), (350, (.iaload, 1)), (351, (.aload_n 0, 1)), (352, (.iload_n 3, 1)), (353, (.iconst 2, 1)), (354, (.iadd, 1)), (355, (.iaload, 1)), (356, (.invokevirtual 28, 3)), (359, (.aload_n 2, 1)), (360, (.aload_n 0, 1)), (361, (.iload_n 3, 1)), (362, (.iconst 1, 1)), (363, (.iadd, 1)), (364, (.iaload, 1)), (365, (.aload_n 0, 1)), (366, (.iload_n 3, 1)), (367, (.iconst 2, 1)), (368, (.iadd, 1)), (369, (.iaload, 1)), (370, (.invokevirtual 31, 3)), (373, (.if_icmp .eq 1081, 3))]
theorem ck_dk345 : ∀ q ∈ ck_dt345, decode code q.1 = .ok q.2 := (ck_cons ck_d18 (ck_cons ck_d19 (ck_cons ck_d20 (ck_cons ck_d21 (ck_cons ck_d23 (ck_cons ck_d24 (ck_cons ck_d1454 (ck_cons ck_d1457 (ck_cons ck_d1460 (ck_cons ck_d1461 (ck_cons ck_d345 (ck_cons ck_d346 (ck_cons ck_d347 (ck_cons ck_d348 (ck_cons ck_d349 (ck_cons ck_d350 (ck_cons ck_d351 (ck_cons ck_d352 (ck_cons ck_d353 (ck_cons ck_d354 (ck_cons ck_d355 (ck_cons ck_d356 (ck_cons ck_d359 (ck_cons ck_d360 (ck_cons ck_d361 (ck_cons ck_d362 (ck_cons ck_d363 (ck_cons ck_d364 (ck_cons ck_d365 (ck_cons ck_d366 (ck_cons ck_d367 (ck_cons ck_d368 (ck_cons ck_d369 (ck_cons ck_d370 (ck_cons ck_d373 ck_nil)))))))))))))))))))))))))))))))))))
def ck_cs345 : List ck_C := [ck_c81, ck_c82, ck_c83, ck_c97, ck_c99, ck_c113]
def ck_sF345 : ck_S := (List.replicate 7 ck_fI, [(0, .inr (2, 900)), (1, .inr (0, 0)), (2, .inr (0, 77)), (3, .inl (0, 0, 0))], [], [((0, 1), .inr (0, 1)), ((1, 7), .inr (0, 7)), ((7, 0), .inl (0, 0)), ((77, 2), .inr (0, 78)), ((78, 0), .inl ((-1), 15)), ((78, 193), .inl (0, 0)), ((78, 194), .inl (0, 0)), ((78, 195), .inl (0, 0)), ((78, 196), .inl (0, 0)), ((78, 197), .inl (0, 0)), ((78, 198), .inl (0, 0)), ((78, 199), .inl (0, 0)), ((78, 200), .inl (0, 0)), ((78, 201), .inl (0, 0)), ((78, 202), .inl (0, 0)), ((78, 203), .inl (0, 0)), ((78, 204), .inl (0, 0)), ((78, 1293), .inl (0, 0)), ((78, 1294), .inl (0, 0)), ((78, 1295), .inl (0, 0))], 101, 101, 109468)
set_option maxRecDepth 100000 in
theorem ck_lc345 : ck_run (ck_stepD ck_dt345 vwCl ck_mts ck_sh ck_T12 ck_cs345 ck_wrL 900 7) [] [] [] 600 [] 7 345 ck_sF345 = true := by decide +kernel
/-! case 378 -/
theorem ck_d378 : decode code 378 = .ok (.aload_n 1, 1) := by decide +kernel
theorem ck_d379 : decode code 379 = .ok (.aload_n 0, 1) := by decide +kernel
theorem ck_d380 : decode code 380 = .ok (.iload_n 3, 1) := by decide +kernel
theorem ck_d381 : decode code 381 = .ok (.iconst 1, 1) := by decide +kernel
theorem ck_d382 : decode code 382 = .ok (.iadd, 1) := by decide +kernel
theorem ck_d383 : decode code 383 = .ok (.iaload, 1) := by decide +kernel
theorem ck_d384 : decode code 384 = .ok (.aload_n 0, 1) := by decide +kernel
theorem ck_d385 : decode code 385 = .ok (.iload_n 3, 1) := by decide +kernel
theorem ck_d386 : decode code 386 = .ok (.iconst 2, 1) := by decide +kernel
theorem ck_d387 : decode code 387 = .ok (.iadd, 1) := by decide +kernel
theorem ck_d388 : decode code 388 = .ok (.iaload, 1) := by decide +kernel
theorem ck_d389 : decode code 389 = .ok (.aload_n 0, 1) := by decide +kernel
theorem ck_d390 : decode code 390 = .ok (.iload_n 3, 1) := by decide +kernel
theorem ck_d391 : decode code 391 = .ok (.iconst 3, 1) := by decide +kernel
theorem ck_d392 : decode code 392 = .ok (.iadd, 1) := by decide +kernel
theorem ck_d393 : decode code 393 = .ok (.iaload, 1) := by decide +kernel
theorem ck_d394 : decode code 394 = .ok (.invokevirtual 32, 3) := by decide +kernel
theorem ck_d397 : decode code 397 = .ok (.aload_n 2, 1) := by decide +kernel
theorem ck_d398 : decode code 398 = .ok (.aload_n 0, 1) := by decide +kernel
theorem ck_d399 : decode code 399 = .ok (.iload_n 3, 1) := by decide +kernel
theorem ck_d400 : decode code 400 = .ok (.iconst 1, 1) := by decide +kernel
theorem ck_d401 : decode code 401 = .ok (.iadd, 1) := by decide +kernel
theorem ck_d402 : decode code 402 = .ok (.iaload, 1) := by decide +kernel
theorem ck_d403 : decode code 403 = .ok (.aload_n 0, 1) := by decide +kernel
theorem ck_d404 : decode code 404 = .ok (.iload_n 3, 1) := by decide +kernel
theorem ck_d405 : decode code 405 = .ok (.iconst 2, 1) := by decide +kernel
theorem ck_d406 : decode code 406 = .ok (.iadd, 1) := by decide +kernel
theorem ck_d407 : decode code 407 = .ok (.iaload, 1) := by decide +kernel
theorem ck_d408 : decode code 408 = .ok (.aload_n 0, 1) := by decide +kernel
theorem ck_d409 : decode code 409 = .ok (.iload_n 3, 1) := by decide +kernel
theorem ck_d410 : decode code 410 = .ok (.iconst 3, 1) := by decide +kernel
theorem ck_d411 : decode code 411 = .ok (.iadd, 1) := by decide +kernel
theorem ck_d412 : decode code 412 = .ok (.iaload, 1) := by decide +kernel
theorem ck_d413 : decode code 413 = .ok (.invokevirtual 35, 3) := by decide +kernel
theorem ck_d416 : decode code 416 = .ok (.if_icmp .eq 1038, 3) := by decide +kernel
def ck_dt378 : List (Nat × Instr × Nat) := [(18, (.iload_n 3, 1)), (19, (.aload_n 0, 1)), (20, (.arraylength, 1)), (21, (.bipush 7, 2)), (23, (.isub, 1)), (24, (.if_icmp .gt 1436, 3)), (1454, (.iinc 3 7, 3)), (1457, (.goto (-1439), 3)), (1460, (.iconst 1, 1)), (1461, (.ireturn, 1)), (378, (.aload_n 1, 1)), (379, (.aload_n 0, 1)), (380, (.iload_n 3, 1)), (381, (.iconst 1, 1)), (382, (.iadd, 1)), (383, (.iaload, 1)), (384, (.aload_n 0, 1)), (385, (.iload_n 3, 1)), (386, (.iconst 2, 1)), (387, (.iadd, 1)), (388, (.iaload, 1)), (389, (.aload_n 0, 1)), (390, (.iload_n 3, 1)), (391, (.iconst 3, 1)), (392, (.iadd, 1)), (393, (.iaload, 1)), (394, (.invokevirtual 32, 3)), (397, (.aload_n 2, 1)), (398, (.aload_n 0, 1)), (399, (.iload_n 3, 1)), (400, (.iconst 1, 1)), (401, (.iadd, 1)), (402, (.iaload, 1)), (403, (.aload_n 0, 1)), (404, (.iload_n 3, 1)), (405, (.iconst 2, 1)), (406, (.iadd, 1)), (407, (.iaload, 1)), (408, (.aload_n 0, 1)), (409, (.iload_n 3, 1)), (410, (.iconst 3, 1)), (411, (.iadd, 1)), (412, (.iaload, 1)), (413, (.invokevirtual 35, 3)), (416, (.if_icmp .eq 1038, 3))]
theorem ck_dk378 : ∀ q ∈ ck_dt378, decode code q.1 = .ok q.2 := (ck_cons ck_d18 (ck_cons ck_d19 (ck_cons ck_d20 (ck_cons ck_d21 (ck_cons ck_d23 (ck_cons ck_d24 (ck_cons ck_d1454 (ck_cons ck_d1457 (ck_cons ck_d1460 (ck_cons ck_d1461 (ck_cons ck_d378 (ck_cons ck_d379 (ck_cons ck_d380 (ck_cons ck_d381 (ck_cons ck_d382 (ck_cons ck_d383 (ck_cons ck_d384 (ck_cons ck_d385 (ck_cons ck_d386 (ck_cons ck_d387 (ck_cons ck_d388 (ck_cons ck_d389 (ck_cons ck_d390 (ck_cons ck_d391 (ck_cons ck_d392 (ck_cons ck_d393 (ck_cons ck_d394 (ck_cons ck_d397 (ck_cons ck_d398 (ck_cons ck_d399 (ck_cons ck_d400 (ck_cons ck_d401 (ck_cons ck_d402 (ck_cons ck_d403 (ck_cons ck_d404 (ck_cons ck_d405 (ck_cons ck_d406 (ck_cons ck_d407 (ck_cons ck_d408 (ck_cons ck_d409 (ck_cons ck_d410 (ck_cons ck_d411 (ck_cons ck_d412 (ck_cons ck_d413 (ck_cons ck_d416 ck_nil)))))))))))))))))))))))))))))))))))))))))))))
def ck_cs378 : List ck_C := [ck_c116, ck_c117, ck_c118, ck_c120, ck_c122, ck_c124, ck_c125, ck_c126]
def ck_sF378 : ck_S := (List.replicate 7 ck_fI, [(0, .inr (2, 900)), (1, .inr (0, 0)), (2, .inr (0, 77)), (3, .inl (0, 0, 0))], [], [((0, 1), .inr (0, 1)), ((1, 8), .inr (0, 8)), ((1, 9), .inr (0, 9)), ((8, 0), .inl (0, 0)), ((9, 0), .inl (0, 0)), ((77, 2), .inr (0, 78)), ((78, 0), .inl ((-1), 15)), ((78, 193), .inl (0, 0)), ((78, 194), .inl (0, 0)), ((78, 195), .inl (0, 0)), ((78, 196), .inl (0, 0)), ((78, 197), .inl (0, 0)), ((78, 198), .inl (0, 0)), ((78, 199), .inl (0, 0)), ((78, 200), .inl (0, 0)), ((78, 201), .inl (0, 0)), ((78, 202), .inl (0, 0)), ((78, 203), .inl (0, 0)), ((78, 204), .inl (0, 0)), ((78, 1293), .inl (0, 0)), ((78, 1294), .inl (0, 0)), ((78, 1295), .inl (0, 0))], 101, 101, 109468)
set_option maxRecDepth 100000 in
theorem ck_lc378 : ck_run (ck_stepD ck_dt378 vwCl ck_mts ck_sh ck_T12 ck_cs378 ck_wrL 900 7) [] [] [] 600 [] 7 378 ck_sF378 = true := by decide +kernel
/-! case 421 -/
theorem ck_d421 : decode code 421 = .ok (.aload_n 1, 1) := by decide +kernel
theorem ck_d422 : decode code 422 = .ok (.aload_n 0, 1) := by decide +kernel
theorem ck_d423 : decode code 423 = .ok (.iload_n 3, 1) := by decide +kernel
theorem ck_d424 : decode code 424 = .ok (.iconst 1, 1) := by decide +kernel
theorem ck_d425 : decode code 425 = .ok (.iadd, 1) := by decide +kernel
theorem ck_d426 : decode code 426 = .ok (.iaload, 1) := by decide +kernel
theorem ck_d427 : decode code 427 = .ok (.invokevirtual 36, 3) := by decide +kernel
theorem ck_d430 : decode code 430 = .ok (.aload_n 2, 1) := by decide +kernel
theorem ck_d431 : decode code 431 = .ok (.aload_n 0, 1) := by decide +kernel
theorem ck_d432 : decode code 432 = .ok (.iload_n 3, 1) := by decide +kernel
theorem ck_d433 : decode code 433 = .ok (.iconst 1, 1) := by decide +kernel
theorem ck_d434 : decode code 434 = .ok (.iadd, 1) := by decide +kernel
theorem ck_d435 : decode code 435 = .ok (.iaload, 1) := by decide +kernel
theorem ck_d436 : decode code 436 = .ok (.invokevirtual 40, 3) := by decide +kernel
theorem ck_d439 : decode code 439 = .ok (.if_icmp .eq 1015, 3) := by decide +kernel
def ck_dt421 : List (Nat × Instr × Nat) := [(18, (.iload_n 3, 1)), (19, (.aload_n 0, 1)), (20, (.arraylength, 1)), (21, (.bipush 7, 2)), (23, (.isub, 1)), (24, (.if_icmp .gt 1436, 3)), (1454, (.iinc 3 7, 3)), (1457, (.goto (-1439), 3)), (1460, (.iconst 1, 1)), (1461, (.ireturn, 1)), (421, (.aload_n 1, 1)), (422, (.aload_n 0, 1)), (423, (.iload_n 3, 1)), (424, (.iconst 1, 1)), (425, (.iadd, 1)), (426, (.iaload, 1)), (427, (.invokevirtual 36, 3)), (430, (.aload_n 2, 1)), (431, (.aload_n 0, 1)), (432, (.iload_n 3, 1)), (433, (.iconst 1, 1)), (434, (.iadd, 1)), (435, (.iaload, 1)), (436, (.invokevirtual 40, 3)), (439, (.if_icmp .eq 1015, 3))]
theorem ck_dk421 : ∀ q ∈ ck_dt421, decode code q.1 = .ok q.2 := (ck_cons ck_d18 (ck_cons ck_d19 (ck_cons ck_d20 (ck_cons ck_d21 (ck_cons ck_d23 (ck_cons ck_d24 (ck_cons ck_d1454 (ck_cons ck_d1457 (ck_cons ck_d1460 (ck_cons ck_d1461 (ck_cons ck_d421 (ck_cons ck_d422 (ck_cons ck_d423 (ck_cons ck_d424 (ck_cons ck_d425 (ck_cons ck_d426 (ck_cons ck_d427 (ck_cons ck_d430 (ck_cons ck_d431 (ck_cons ck_d432 (ck_cons ck_d433 (ck_cons ck_d434 (ck_cons ck_d435 (ck_cons ck_d436 (ck_cons ck_d439 ck_nil)))))))))))))))))))))))))
def ck_cs421 : List ck_C := [ck_c128, ck_c130, ck_c132, ck_c134]
def ck_sF421 : ck_S := (List.replicate 7 ck_fI, [(0, .inr (2, 900)), (1, .inr (0, 0)), (2, .inr (0, 77)), (3, .inl (0, 0, 0))], [], [((0, 1), .inr (0, 1)), ((77, 2), .inr (0, 78)), ((78, 0), .inl ((-1), 15)), ((78, 193), .inl (0, 0)), ((78, 194), .inl (0, 0)), ((78, 195), .inl (0, 0)), ((78, 196), .inl (0, 0)), ((78, 197), .inl (0, 0)), ((78, 198), .inl (0, 0)), ((78, 199), .inl (0, 0)), ((78, 200), .inl (0, 0)), ((78, 201), .inl (0, 0)), ((78, 202), .inl (0, 0)), ((78, 203), .inl (0, 0)), ((78, 204), .inl (0, 0)), ((78, 1293), .inl (0, 0)), ((78, 1294), .inl (0, 0)), ((78, 1295), .inl (0, 0))], 101, 101, 109468)
set_option maxRecDepth 100000 in
theorem ck_lc421 : ck_run (ck_stepD ck_dt421 vwCl ck_mts ck_sh ck_T12 ck_cs421 ck_wrL 900 7) [] [] [] 600 [] 7 421 ck_sF421 = true := by decide +kernel
/-! case 444 -/
theorem ck_d444 : decode code 444 = .ok (.aload_n 1, 1) := by decide +kernel
theorem ck_d445 : decode code 445 = .ok (.aload_n 0, 1) := by decide +kernel
theorem ck_d446 : decode code 446 = .ok (.iload_n 3, 1) := by decide +kernel
theorem ck_d447 : decode code 447 = .ok (.iconst 1, 1) := by decide +kernel
theorem ck_d448 : decode code 448 = .ok (.iadd, 1) := by decide +kernel
theorem ck_d449 : decode code 449 = .ok (.iaload, 1) := by decide +kernel
theorem ck_d450 : decode code 450 = .ok (.aload_n 0, 1) := by decide +kernel
theorem ck_d451 : decode code 451 = .ok (.iload_n 3, 1) := by decide +kernel
theorem ck_d452 : decode code 452 = .ok (.iconst 2, 1) := by decide +kernel
theorem ck_d453 : decode code 453 = .ok (.iadd, 1) := by decide +kernel
theorem ck_d454 : decode code 454 = .ok (.iaload, 1) := by decide +kernel
theorem ck_d455 : decode code 455 = .ok (.aload_n 0, 1) := by decide +kernel
theorem ck_d456 : decode code 456 = .ok (.iload_n 3, 1) := by decide +kernel
theorem ck_d457 : decode code 457 = .ok (.iconst 3, 1) := by decide +kernel
theorem ck_d458 : decode code 458 = .ok (.iadd, 1) := by decide +kernel
theorem ck_d459 : decode code 459 = .ok (.iaload, 1) := by decide +kernel
theorem ck_d460 : decode code 460 = .ok (.aload_n 0, 1) := by decide +kernel
theorem ck_d461 : decode code 461 = .ok (.iload_n 3, 1) := by decide +kernel
theorem ck_d462 : decode code 462 = .ok (.iconst 4, 1) := by decide +kernel
theorem ck_d463 : decode code 463 = .ok (.iadd, 1) := by decide +kernel
theorem ck_d464 : decode code 464 = .ok (.iaload, 1) := by decide +kernel
theorem ck_d465 : decode code 465 = .ok (.aload_n 0, 1) := by decide +kernel
theorem ck_d466 : decode code 466 = .ok (.iload_n 3, 1) := by decide +kernel
theorem ck_d467 : decode code 467 = .ok (.iconst 5, 1) := by decide +kernel
theorem ck_d468 : decode code 468 = .ok (.iadd, 1) := by decide +kernel
theorem ck_d469 : decode code 469 = .ok (.iaload, 1) := by decide +kernel
theorem ck_d470 : decode code 470 = .ok (.invokevirtual 41, 3) := by decide +kernel
theorem ck_d473 : decode code 473 = .ok (.aload_n 2, 1) := by decide +kernel
theorem ck_d474 : decode code 474 = .ok (.aload_n 0, 1) := by decide +kernel
theorem ck_d475 : decode code 475 = .ok (.iload_n 3, 1) := by decide +kernel
theorem ck_d476 : decode code 476 = .ok (.iconst 1, 1) := by decide +kernel
theorem ck_d477 : decode code 477 = .ok (.iadd, 1) := by decide +kernel
theorem ck_d478 : decode code 478 = .ok (.iaload, 1) := by decide +kernel
theorem ck_d479 : decode code 479 = .ok (.aload_n 0, 1) := by decide +kernel
theorem ck_d480 : decode code 480 = .ok (.iload_n 3, 1) := by decide +kernel
theorem ck_d481 : decode code 481 = .ok (.iconst 2, 1) := by decide +kernel
theorem ck_d482 : decode code 482 = .ok (.iadd, 1) := by decide +kernel
theorem ck_d483 : decode code 483 = .ok (.iaload, 1) := by decide +kernel
theorem ck_d484 : decode code 484 = .ok (.aload_n 0, 1) := by decide +kernel
theorem ck_d485 : decode code 485 = .ok (.iload_n 3, 1) := by decide +kernel
theorem ck_d486 : decode code 486 = .ok (.iconst 3, 1) := by decide +kernel
theorem ck_d487 : decode code 487 = .ok (.iadd, 1) := by decide +kernel
theorem ck_d488 : decode code 488 = .ok (.iaload, 1) := by decide +kernel
theorem ck_d489 : decode code 489 = .ok (.aload_n 0, 1) := by decide +kernel
theorem ck_d490 : decode code 490 = .ok (.iload_n 3, 1) := by decide +kernel
theorem ck_d491 : decode code 491 = .ok (.iconst 4, 1) := by decide +kernel
theorem ck_d492 : decode code 492 = .ok (.iadd, 1) := by decide +kernel
theorem ck_d493 : decode code 493 = .ok (.iaload, 1) := by decide +kernel
theorem ck_d494 : decode code 494 = .ok (.aload_n 0, 1) := by decide +kernel
theorem ck_d495 : decode code 495 = .ok (.iload_n 3, 1) := by decide +kernel
theorem ck_d496 : decode code 496 = .ok (.iconst 5, 1) := by decide +kernel
theorem ck_d497 : decode code 497 = .ok (.iadd, 1) := by decide +kernel
theorem ck_d498 : decode code 498 = .ok (.iaload, 1) := by decide +kernel
theorem ck_d499 : decode code 499 = .ok (.invokevirtual 45, 3) := by decide +kernel
theorem ck_d502 : decode code 502 = .ok (.if_icmp .eq 952, 3) := by decide +kernel
def ck_dt444 : List (Nat × Instr × Nat) := [(18, (.iload_n 3, 1)), (19, (.aload_n 0, 1)), (20, (.arraylength, 1)), (21, (.bipush 7, 2)), (23, (.isub, 1)), (24, (.if_icmp .gt 1436, 3)), (1454, (.iinc 3 7, 3)), (1457, (.goto (-1439), 3)), (1460, (.iconst 1, 1)), (1461, (.ireturn, 1)), (444, (.aload_n 1, 1)), (445, (.aload_n 0, 1)), (446, (.iload_n 3, 1)), (447, (.iconst 1, 1)), (448, (.iadd, 1)), (449, (.iaload, 1)), (450, (.aload_n 0, 1)), (451, (.iload_n 3, 1)), (452, (.iconst 2, 1)), (453, (.iadd, 1)), (454, (.iaload, 1)), (455, (.aload_n 0, 1)), (456, (.iload_n 3, 1)), (457, (.iconst 3, 1)), (458, (.iadd, 1)), (459, (.iaload, 1)), (460, (.aload_n 0, 1)), (461, (.iload_n 3, 1)), (462, (.iconst 4, 1)), (463, (.iadd, 1)), (464, (.iaload, 1)), (465, (.aload_n 0, 1)), (466, (.iload_n 3, 1)), (467, (.iconst 5, 1)), (468, (.iadd, 1)), (469, (.iaload, 1)), (470, (.invokevirtual 41, 3)), (473, (.aload_n 2, 1)), (474, (.aload_n 0, 1)), (475, (.iload_n 3, 1)), (476, (.iconst 1, 1)), (477, (.iadd, 1)), (478, (.iaload, 1)), (479, (.aload_n 0, 1)), (480, (.iload_n 3, 1)), (481, (.iconst 2, 1)), (482, (.iadd, 1)), (483, (.iaload, 1)), (484, (.aload_n 0, 1)), (485, (.iload_n 3, 1)), (486, (.iconst 3, 1)), (487, (.iadd, 1)), (488, (.iaload, 1)), (489, (.aload_n 0, 1)), (490, (.iload_n 3, 1)), (491, (.iconst 4, 1)), (492, (.iadd, 1)), (493, (.iaload, 1)), (494, (.aload_n 0, 1)), (495, (.iload_n 3, 1)), (496, (.iconst 5, 1)), (497, (.iadd, 1)), (498, (.iaload, 1)), (499, (.invokevirtual 45, 3)), (502, (.if_icmp .eq 952, 3))]
theorem ck_dk444 : ∀ q ∈ ck_dt444, decode code q.1 = .ok q.2 := (ck_cons ck_d18 (ck_cons ck_d19 (ck_cons ck_d20 (ck_cons ck_d21 (ck_cons ck_d23 (ck_cons ck_d24 (ck_cons ck_d1454 (ck_cons ck_d1457 (ck_cons ck_d1460 (ck_cons ck_d1461 (ck_cons ck_d444 (ck_cons ck_d445 (ck_cons ck_d446 (ck_cons ck_d447 (ck_cons ck_d448 (ck_cons ck_d449 (ck_cons ck_d450 (ck_cons ck_d451 (ck_cons ck_d452 (ck_cons ck_d453 (ck_cons ck_d454 (ck_cons ck_d455 (ck_cons ck_d456 (ck_cons ck_d457 (ck_cons ck_d458 (ck_cons ck_d459 (ck_cons ck_d460 (ck_cons ck_d461 (ck_cons ck_d462 (ck_cons ck_d463 (ck_cons ck_d464 (ck_cons ck_d465 (ck_cons ck_d466 (ck_cons ck_d467 (ck_cons ck_d468 (ck_cons ck_d469 (ck_cons ck_d470 (ck_cons ck_d473 (ck_cons ck_d474 (ck_cons ck_d475 (ck_cons ck_d476 (ck_cons ck_d477 (ck_cons ck_d478 (ck_cons ck_d479 (ck_cons ck_d480 (ck_cons ck_d481 (ck_cons ck_d482 (ck_cons ck_d483 (ck_cons ck_d484 (ck_cons ck_d485 (ck_cons ck_d486 (ck_cons ck_d487 (ck_cons ck_d488 (ck_cons ck_d489 (ck_cons ck_d490 (ck_cons ck_d491 (ck_cons ck_d492 (ck_cons ck_d493 (ck_cons ck_d494 (ck_cons ck_d495 (ck_cons ck_d496 (ck_cons ck_d497 (ck_cons ck_d498 (ck_cons ck_d499 (ck_cons ck_d502 ck_nil)))))))))))))))))))))))))))))))))))))))))))))))))))))))))))))))))
def ck_cs444 : List ck_C := [ck_c140, ck_c141]
def ck_sF444 : ck_S := (List.replicate 7 ck_fI, [(0, .inr (2, 900)), (1, .inr (0, 0)), (2, .inr (0, 77)), (3, .inl (0, 0, 0))], [], [((0, 4), .inr (0, 45)), ((45, 1), .inr (0, 46)), ((45, 2), .inl (0, 0)), ((46, 0), .inl (0, 0)), ((77, 6), .inr (0, 82)), ((77, 7), .inr (0, 83)), ((77, 8), .inl (0, 0)), ((82, 0), .inl (0, 0)), ((83, 0), .inl (0, 0))], 101, 101, 109468)
set_option maxRecDepth 100000 in
theorem ck_lc444 : ck_run (ck_stepD ck_dt444 vwCl ck_mts ck_sh ck_T12 ck_cs444 ck_wrL 900 7) [] [] [] 600 [] 7 444 ck_sF444 = true := by decide +kernel
