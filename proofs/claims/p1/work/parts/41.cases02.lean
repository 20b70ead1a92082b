/-! case 507 -/
theorem ck_d507 : decode code 507 = .ok (.aload_n 1, 1) := by decide +kernel
theorem ck_d508 : decode code 508 = .ok (.aload_n 0, 1) := by decide +kernel
theorem ck_d509 : decode code 509 = .ok (.iload_n 3, 1) := by decide +kernel
theorem ck_d510 : decode code 510 = .ok (.iconst 1, 1) := by decide +kernel
theorem ck_d511 : decode code 511 = .ok (.iadd, 1) := by decide +kernel
theorem ck_d512 : decode code 512 = .ok (.iaload, 1) := by decide +kernel
theorem ck_d513 : decode code 513 = .ok (.invokevirtual 46, 3) := by decide +kernel
theorem ck_d516 : decode code 516 = .ok (.aload_n 2, 1) := by decide +kernel
theorem ck_d517 : decode code 517 = .ok (.aload_n 0, 1) := by decide +kernel
theorem ck_d518 : decode code 518 = .ok (.iload_n 3, 1) := by decide +kernel
theorem ck_d519 : decode code 519 = .ok (.iconst 1, 1) := by decide +kernel
theorem ck_d520 : decode code 520 = .ok (.iadd, 1) := by decide +kernel
theorem ck_d521 : decode code 521 = .ok (.iaload, 1) := by decide +kernel
theorem ck_d522 : decode code 522 = .ok (.invokevirtual 49, 3) := by decide +kernel
theorem ck_d525 : decode code 525 = .ok (.if_icmp .eq 929, 3) := by decide +kernel
def ck_dt507 : List (Nat × Instr × Nat) := [(18, (.iload_n 3, 1)), (19, (.aload_n 0, 1)), (20, (.arraylength, 1)), (21, (.bipush 7, 2)), (23, (.isub, 1)), (24, (.if_icmp .gt 1436, 3)), (1454, (.iinc 3 7, 3)), (1457, (.goto (-1439), 3)), (1460, (.iconst 1, 1)), (1461, (.ireturn, 1)), (507, (.aload_n 1, 1)), (508, (.aload_n 0, 1)), (509, (.iload_n 3, 1)), (510, (.iconst 1, 1)), (511, (.iadd, 1)), (512, (.iaload, 1)), (513, (.invokevirtual 46, 3)), (516, (.aload_n 2, 1)), (517, (.aload_n 0, 1)), (518, (.iload_n 3, 1)), (519, (.iconst 1, 1)), (520, (.iadd, 1)), (521, (.iaload, 1)), (522, (.invokevirtual 49, 3)), (525, (.if_icmp .eq 929, 3))]
theorem ck_dk507 : ∀ q ∈ ck_dt507, decode code q.1 = .ok q.2 := (ck_cons ck_d18 (ck_cons ck_d19 (ck_cons ck_d20 (ck_cons ck_d21 (ck_cons ck_d23 (ck_cons ck_d24 (ck_cons ck_d1454 (ck_cons ck_d1457 (ck_cons ck_d1460 (ck_cons ck_d1461 (ck_cons ck_d507 (ck_cons ck_d508 (ck_cons ck_d509 (ck_cons ck_d510 (ck_cons ck_d511 (ck_cons ck_d512 (ck_cons ck_d513 (ck_cons ck_d516 (ck_cons ck_d517 (ck_cons ck_d518 (ck_cons ck_d519 (ck_cons ck_d520 (ck_cons ck_d521 (ck_cons ck_d522 (ck_cons ck_d525 ck_nil)))))))))))))))))))))))))
def ck_cs507 : List ck_C := [ck_c143, ck_c145, ck_c147, ck_c149]
def ck_sF507 : ck_S := (List.replicate 7 ck_fI, [(0, .inr (2, 900)), (1, .inr (0, 0)), (2, .inr (0, 77)), (3, .inl (0, 0, 0))], [], [((0, 4), .inr (0, 45)), ((45, 2), .inl (0, 0)), ((77, 8), .inl (0, 0))], 101, 101, 109468)
set_option maxRecDepth 100000 in
theorem ck_lc507 : ck_run (ck_stepD ck_dt507 vwCl ck_mts ck_sh ck_T12 ck_cs507 ck_wrL 900 7) [] [] [] 600 [] 7 507 ck_sF507 = true := by decide +kernel
/-! case 530 -/
theorem ck_d530 : decode code 530 = .ok (.aload_n 1, 1) := by decide +kernel
theorem ck_d531 : decode code 531 = .ok (.invokevirtual 50, 3) := by decide +kernel
theorem ck_d534 : decode code 534 = .ok (.aload_n 2, 1) := by decide +kernel
theorem ck_d535 : decode code 535 = .ok (.invokevirtual 54, 3) := by decide +kernel
theorem ck_d538 : decode code 538 = .ok (.if_icmp .eq 916, 3) := by decide +kernel
def ck_dt530 : List (Nat × Instr × Nat) := [(18, (.iload_n 3, 1)), (19, (.aload_n 0, 1)), (20, (.arraylength, 1)), (21, (.bipush 7, 2)), (23, (.isub, 1)), (24, (.if_icmp .gt 1436, 3)), (1454, (.iinc 3 7, 3)), (1457, (.goto (-1439), 3)), (1460, (.iconst 1, 1)), (1461, (.ireturn, 1)), (530, (.aload_n 1, 1)), (531, (.invokevirtual 50, 3)), (534, (.aload_n 2, 1)), (535, (.invokevirtual 54, 3)), (538, (.if_icmp .eq 916, 3))]
theorem ck_dk530 : ∀ q ∈ ck_dt530, decode code q.1 = .ok q.2 := (ck_cons ck_d18 (ck_cons ck_d19 (ck_cons ck_d20 (ck_cons ck_d21 (ck_cons ck_d23 (ck_cons ck_d24 (ck_cons ck_d1454 (ck_cons ck_d1457 (ck_cons ck_d1460 (ck_cons ck_d1461 (ck_cons ck_d530 (ck_cons ck_d531 (ck_cons ck_d534 (ck_cons ck_d535 (ck_cons ck_d538 ck_nil)))))))))))))))
def ck_cs530 : List ck_C := [ck_c163, ck_c180]
def ck_sF530 : ck_S := (List.replicate 7 ck_fI, [(0, .inr (2, 900)), (1, .inr (0, 0)), (2, .inr (0, 77)), (3, .inl (0, 0, 0))], [], [((0, 1), .inr (0, 1)), ((0, 4), .inr (0, 45)), ((0, 5), .inr (0, 47)), ((1, 12), .inl (0, 0)), ((45, 2), .inl (0, 0)), ((47, 1), .inr (0, 45)), ((47, 8), .inl (0, 0)), ((47, 9), .inl (0, 0)), ((47, 10), .inl (0, 0)), ((77, 2), .inr (0, 78)), ((77, 8), .inl (0, 0)), ((77, 10), .inr (0, 84)), ((77, 11), .inr (0, 85)), ((77, 12), .inr (0, 86)), ((77, 13), .inl (0, 0)), ((77, 14), .inl (0, 0)), ((77, 16), .inl (0, 0)), ((78, 1295), .inl (0, 0)), ((84, 0), .inl (0, 0)), ((85, 0), .inl (0, 0)), ((86, 0), .inl (0, 0))], 101, 101, 109468)
set_option maxRecDepth 100000 in
theorem ck_lc530 : ck_run (ck_stepD ck_dt530 vwCl ck_mts ck_sh ck_T12 ck_cs530 ck_wrL 900 7) [] [] [] 600 [] 7 530 ck_sF530 = true := by decide +kernel
/-! case 543 -/
theorem ck_d543 : decode code 543 = .ok (.aload_n 1, 1) := by decide +kernel
theorem ck_d544 : decode code 544 = .ok (.invokevirtual 55, 3) := by decide +kernel
theorem ck_d547 : decode code 547 = .ok (.aload_n 2, 1) := by decide +kernel
theorem ck_d548 : decode code 548 = .ok (.invokevirtual 58, 3) := by decide +kernel
theorem ck_d551 : decode code 551 = .ok (.if_icmp .eq 903, 3) := by decide +kernel
def ck_dt543 : List (Nat × Instr × Nat) := [(18, (.iload_n 3, 1)), (19, (.aload_n 0, 1)), (20, (.arraylength, 1)), (21, (.bipush 7, 2)), (23, (.isub, 1)), (24, (.if_icmp .gt 1436, 3)), (1454, (.iinc 3 7, 3)), (1457, (.goto (-1439), 3)), (1460, (.iconst 1, 1)), (1461, (.ireturn, 1)), (543, (.aload_n 1, 1)), (544, (.invokevirtual 55, 3)), (547, (.aload_n 2, 1)), (548, (.invokevirtual 58, 3)), (551, (.if_icmp .eq 903, 3))]
theorem ck_dk543 : ∀ q ∈ ck_dt543, decode code q.1 = .ok q.2 := (ck_cons ck_d18 (ck_cons ck_d19 (ck_cons ck_d20 (ck_cons ck_d21 (ck_cons ck_d23 (ck_cons ck_d24 (ck_cons ck_d1454 (ck_cons ck_d1457 (ck_cons ck_d1460 (ck_cons ck_d1461 (ck_cons ck_d543 (ck_cons ck_d544 (ck_cons ck_d547 (ck_cons ck_d548 (ck_cons ck_d551 ck_nil)))))))))))))))
def ck_cs543 : List ck_C := [ck_c181, ck_c182]
def ck_sF543 : ck_S := (List.replicate 7 ck_fI, [(0, .inr (2, 900)), (1, .inr (0, 0)), (2, .inr (0, 77)), (3, .inl (0, 0, 0))], [], [((0, 14), .inl ((-1), (-1))), ((77, 9), .inl ((-1), (-1)))], 101, 101, 109468)
set_option maxRecDepth 100000 in
theorem ck_lc543 : ck_run (ck_stepD ck_dt543 vwCl ck_mts ck_sh ck_T12 ck_cs543 ck_wrL 900 7) [] [] [] 600 [] 7 543 ck_sF543 = true := by decide +kernel
/-! case 556 -/
theorem ck_d556 : decode code 556 = .ok (.aload_n 1, 1) := by decide +kernel
theorem ck_d557 : decode code 557 = .ok (.aload_n 0, 1) := by decide +kernel
theorem ck_d558 : decode code 558 = .ok (.iload_n 3, 1) := by decide +kernel
theorem ck_d559 : decode code 559 = .ok (.iconst 1, 1) := by decide +kernel
theorem ck_d560 : decode code 560 = .ok (.iadd, 1) := by decide +kernel
theorem ck_d561 : decode code 561 = .ok (.iaload, 1) := by decide +kernel
theorem ck_d562 : decode code 562 = .ok (.invokevirtual 59, 3) := by decide +kernel
theorem ck_d565 : decode code 565 = .ok (.aload_n 2, 1) := by decide +kernel
theorem ck_d566 : decode code 566 = .ok (.aload_n 0, 1) := by decide +kernel
theorem ck_d567 : decode code 567 = .ok (.iload_n 3, 1) := by decide +kernel
theorem ck_d568 : decode code 568 = .ok (.iconst 1, 1) := by decide +kernel
theorem ck_d569 : decode code 569 = .ok (.iadd, 1) := by decide +kernel
theorem ck_d570 : decode code 570 = .ok (.iaload, 1) := by decide +kernel
theorem ck_d571 : decode code 571 = .ok (.invokevirtual 62, 3) := by decide +kernel
theorem ck_d574 : decode code 574 = .ok (.if_icmp .eq 880, 3) := by decide +kernel
def ck_dt556 : List (Nat × Instr × Nat) := [(18, (.iload_n 3, 1)), (19, (.aload_n 0, 1)), (20, (.arraylength, 1)), (21, (.bipush 7, 2)), (23, (.isub, 1)), (24, (.if_icmp .gt 1436, 3)), (1454, (.iinc 3 7, 3)), (1457, (.goto (-1439), 3)), (1460, (.iconst 1, 1)), (1461, (.ireturn, 1)), (556, (.aload_n 1, 1)), (557, (.aload_n 0, 1)), (558, (.iload_n 3, 1)), (559, (.iconst 1, 1)), (560, (.iadd, 1)), (561, (.iaload, 1)), (562, (.invokevirtual 59, 3)), (565, (.aload_n 2, 1)), (566, (.aload_n 0, 1)), (567, (.iload_n 3, 1)), (568, (.iconst 1, 1)), (569, (.iadd, 1)), (570, (.iaload, 1)), (571, (.invokevirtual 62, 3)), (574, (.if_icmp .eq 880, 3))]
theorem ck_dk556 : ∀ q ∈ ck_dt556, decode code q.1 = .ok q.2 := (ck_cons ck_d18 (ck_cons ck_d19 (ck_cons ck_d20 (ck_cons ck_d21 (ck_cons ck_d23 (ck_cons ck_d24 (ck_cons ck_d1454 (ck_cons ck_d1457 (ck_cons ck_d1460 (ck_cons ck_d1461 (ck_cons ck_d556 (ck_cons ck_d557 (ck_cons ck_d558 (ck_cons ck_d559 (ck_cons ck_d560 (ck_cons ck_d561 (ck_cons ck_d562 (ck_cons ck_d565 (ck_cons ck_d566 (ck_cons ck_d567 (ck_cons ck_d568 (ck_cons ck_d569 (ck_cons ck_d570 (ck_cons ck_d571 (ck_cons ck_d574 ck_nil)))))))))))))))))))))))))
def ck_cs556 : List ck_C := [ck_c183, ck_c185, ck_c187]
def ck_sF556 : ck_S := (List.replicate 7 ck_fI, [(0, .inr (2, 900)), (1, .inr (0, 0)), (2, .inr (0, 77)), (3, .inl (0, 0, 0))], [], [((0, 1), .inr (0, 1)), ((1, 12), .inl (0, 0)), ((77, 2), .inr (0, 78)), ((78, 1295), .inl (0, 0))], 101, 101, 109468)
set_option maxRecDepth 100000 in
theorem ck_lc556 : ck_run (ck_stepD ck_dt556 vwCl ck_mts ck_sh ck_T12 ck_cs556 ck_wrL 900 7) [] [] [] 600 [] 7 556 ck_sF556 = true := by decide +kernel
