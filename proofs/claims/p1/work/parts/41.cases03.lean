/-! case 579 -/
theorem ck_d579 : decode code 579 = .ok (.aload_n 1, 1) := by decide +kernel
theorem ck_d580 : decode code 580 = .ok (.aload_n 0, 1) := by decide +kernel
theorem ck_d581 : decode code 581 = .ok (.iload_n 3, 1) := by decide +kernel
theorem ck_d582 : decode code 582 = .ok (.iconst 1, 1) := by decide +kernel
theorem ck_d583 : decode code 583 = .ok (.iadd, 1) := by decide +kernel
theorem ck_d584 : decode code 584 = .ok (.iaload, 1) := by decide +kernel
theorem ck_d585 : decode code 585 = .ok (.aload_n 0, 1) := by decide +kernel
theorem ck_d586 : decode code 586 = .ok (.iload_n 3, 1) := by decide +kernel
theorem ck_d587 : decode code 587 = .ok (.iconst 2, 1) := by decide +kernel
theorem ck_d588 : decode code 588 = .ok (.iadd, 1) := by decide +kernel
theorem ck_d589 : decode code 589 = .ok (.iaload, 1) := by decide +kernel
theorem ck_d590 : decode code 590 = .ok (.aload_n 0, 1) := by decide +kernel
theorem ck_d591 : decode code 591 = .ok (.iload_n 3, 1) := by decide +kernel
theorem ck_d592 : decode code 592 = .ok (.iconst 3, 1) := by decide +kernel
theorem ck_d593 : decode code 593 = .ok (.iadd, 1) := by decide +kernel
theorem ck_d594 : decode code 594 = .ok (.iaload, 1) := by decide +kernel
theorem ck_d595 : decode code 595 = .ok (.aload_n 0, 1) := by decide +kernel
theorem ck_d596 : decode code 596 = .ok (.iload_n 3, 1) := by decide +kernel
theorem ck_d597 : decode code 597 = .ok (.iconst 4, 1) := by decide +kernel
theorem ck_d598 : decode code 598 = .ok (.iadd, 1) := by decide +kernel
theorem ck_d599 : decode code 599 = .ok (.iaload, 1) := by decide +kernel
theorem ck_d600 : decode code 600 = .ok (.invokevirtual 63, 3) := by decide +kernel
theorem ck_d603 : decode code 603 = .ok (.aload_n 2, 1) := by decide +kernel
theorem ck_d604 : decode code 604 = .ok (.aload_n 0, 1) := by decide +kernel
theorem ck_d605 : decode code 605 = .ok (.iload_n 3, 1) := by decide +kernel
theorem ck_d606 : decode code 606 = .ok (.iconst 1, 1) := by decide +kernel
theorem ck_d607 : decode code 607 = .ok (.iadd, 1) := by decide +kernel
theorem ck_d608 : decode code 608 = .ok (.iaload, 1) := by decide +kernel
theorem ck_d609 : decode code 609 = .ok (.aload_n 0, 1) := by decide +kernel
theorem ck_d610 : decode code 610 = .ok (.iload_n 3, 1) := by decide +kernel
theorem ck_d611 : decode code 611 = .ok (.iconst 2, 1) := by decide +kernel
theorem ck_d612 : decode code 612 = .ok (.iadd, 1) := by decide +kernel
theorem ck_d613 : decode code 613 = .ok (.iaload, 1) := by decide +kernel
theorem ck_d614 : decode code 614 = .ok (.aload_n 0, 1) := by decide +kernel
theorem ck_d615 : decode code 615 = .ok (.iload_n 3, 1) := by decide +kernel
theorem ck_d616 : decode code 616 = .ok (.iconst 3, 1) := by decide +kernel
theorem ck_d617 : decode code 617 = .ok (.iadd, 1) := by decide +kernel
theorem ck_d618 : decode code 618 = .ok (.iaload, 1) := by decide +kernel
theorem ck_d619 : decode code 619 = .ok (.aload_n 0, 1) := by decide +kernel
theorem ck_d620 : decode code 620 = .ok (.iload_n 3, 1) := by decide +kernel
theorem ck_d621 : decode code 621 = .ok (.iconst 4, 1) := by decide +kernel
theorem ck_d622 : decode code 622 = .ok (.iadd, 1) := by decide +kernel
theorem ck_d623 : decode code 623 = .ok (.iaload, 1) := by decide +kernel
theorem ck_d624 : decode code 624 = .ok (.invokevirtual 66, 3) := by decide +kernel
theorem ck_d627 : decode code 627 = .ok (.if_icmp .eq 827, 3) := by decide +kernel
def ck_dt579 : List (Nat × Instr × Nat) := [(18, (.iload_n 3, 1)), (19, (.aload_n 0, 1)), (20, (.arraylength, 1)), (21, (.bipush 7, 2)), (23, (.isub, 1)), (24, (.if_icmp .gt 1436, 3)), (1454, (.iinc 3 7, 3)), (1457, (.goto (-1439), 3)), (1460, (.iconst 1, 1)), (1461, (.ireturn, 1)), (579, (.aload_n 1, 1)), (580, (.aload_n 0, 1)), (581, (.iload_n 3, 1)), (582, (.iconst 1, 1)), (583, (.iadd, 1)), (584, (.iaload, 1)), (585, (.aload_n 0, 1)), (586, (.iload_n 3, 1)), (587, (.iconst 2, 1)), (588, (.iadd, 1)), (589, (.iaload, 1)), (590, (.aload_n 0, 1)), (591, (.iload_n 3, 1)), (592, (.iconst 3, 1)), (593, (.iadd, 1)), (594, (.iaload, 1)), (595, (.aload_n 0, 1)), (596, (.iload_n 3, 1)), (597, (.iconst 4, 1)), (598, (.iadd, 1)), (599, (.iaload, 1)), (600, (.invokevirtual 63, 3)), (603, (.aload_n 2, 1)), (604, (.aload_n 0, 1)), (605, (.iload_n 3, 1)), (606, (.iconst 1, 1)), (607, (.iadd, 1)), (608, (.iaload, 1)), (609, (.aload_n 0, 1)), (610, (.iload_n 3, 1)), (611, (.iconst 2, 1)), (612, (.iadd, 1)), (613, (.iaload, 1)), (614, (.aload_n 0, 1)), (615, (.iload_n 3, 1)), (616, (.iconst 3, 1)), (617, (.iadd, 1)), (618, (.iaload, 1)), (619, (.aload_n 0, 1)), (620, (.iload_n 3, 1)), (621, (.iconst 4, 1)), (622, (.iadd, 1)), (623, (.iaload, 1)), (624, (.invokevirtual 66, 3)), (627, (.if_icmp .eq 827, 3))]
theorem ck_dk579 : ∀ q ∈ ck_dt579, decode code q.1 = .ok q.2 := (ck_cons ck_d18 (ck_cons ck_d19 (ck_cons ck_d20 (ck_cons ck_d21 (ck_cons ck_d23 (ck_cons ck_d24 (ck_cons ck_d1454 (ck_cons ck_d1457 (ck_cons ck_d1460 (ck_cons ck_d1461 (ck_cons ck_d579 (ck_cons ck_d580 (ck_cons ck_d581 (ck_cons ck_d582 (ck_cons ck_d583 (ck_cons ck_d584 (ck_cons ck_d585 (ck_cons ck_d586 (ck_cons ck_d587 (ck_cons ck_d588 (ck_cons ck_d589 (ck_cons ck_d590 (ck_cons ck_d591 (ck_cons ck_d592 (ck_cons ck_d593 (ck_cons ck_d594 (ck_cons ck_d595 (ck_cons ck_d596 (ck_cons ck_d597 (ck_cons ck_d598 (ck_cons ck_d599 (ck_cons ck_d600 (ck_cons ck_d603 (ck_cons ck_d604 (ck_cons ck_d605 (ck_cons ck_d606 (ck_cons ck_d607 (ck_cons ck_d608 (ck_cons ck_d609 (ck_cons ck_d610 (ck_cons ck_d611 (ck_cons ck_d612 (ck_cons ck_d613 (ck_cons ck_d614 (ck_cons ck_d615 (ck_cons ck_d616 (ck_cons ck_d617 (ck_cons ck_d618 (ck_cons ck_d619 (ck_cons ck_d620 (ck_cons ck_d621 (ck_cons ck_d622 (ck_cons ck_d623 (ck_cons ck_d624 (ck_cons ck_d627 ck_nil)))))))))))))))))))))))))))))))))))))))))))))))))))))))
def ck_cs579 : List ck_C := [ck_c188, ck_c189, ck_c190]
def ck_sF579 : ck_S := (List.replicate 7 ck_fI, [(0, .inr (2, 900)), (1, .inr (0, 0)), (2, .inr (0, 77)), (3, .inl (0, 0, 0))], [], [((0, 1), .inr (0, 1)), ((1, 1), .inl (0, 0)), ((77, 2), .inr (0, 78)), ((78, 1293), .inl (0, 0))], 101, 101, 109468)
set_option maxRecDepth 100000 in
theorem ck_lc579 : ck_run (ck_stepD ck_dt579 vwCl ck_mts ck_sh ck_T12 ck_cs579 ck_wrL 900 7) [] [] [] 600 [] 7 579 ck_sF579 = true := by decide +kernel
/-! case 632 -/
theorem ck_d632 : decode code 632 = .ok (.aload_n 1, 1) := by decide +kernel
theorem ck_d633 : decode code 633 = .ok (.aload_n 0, 1) := by decide +kernel
theorem ck_d634 : decode code 634 = .ok (.iload_n 3, 1) := by decide +kernel
theorem ck_d635 : decode code 635 = .ok (.iconst 1, 1) := by decide +kernel
theorem ck_d636 : decode code 636 = .ok (.iadd, 1) := by decide +kernel
theorem ck_d637 : decode code 637 = .ok (.iaload, 1) := by decide +kernel
theorem ck_d638 : decode code 638 = .ok (.aload_n 0, 1) := by decide +kernel
theorem ck_d639 : decode code 639 = .ok (.iload_n 3, 1) := by decide +kernel
theorem ck_d640 : decode code 640 = .ok (.iconst 2, 1) := by decide +kernel
theorem ck_d641 : decode code 641 = .ok (.iadd, 1) := by decide +kernel
theorem ck_d642 : decode code 642 = .ok (.iaload, 1) := by decide +kernel
theorem ck_d643 : decode code 643 = .ok (.aload_n 0, 1) := by decide +kernel
theorem ck_d644 : decode code 644 = .ok (.iload_n 3, 1) := by decide +kernel
theorem ck_d645 : decode code 645 = .ok (.iconst 3, 1) := by decide +kernel
theorem ck_d646 : decode code 646 = .ok (.iadd, 1) := by decide +kernel
theorem ck_d647 : decode code 647 = .ok (.iaload, 1) := by decide +kernel
theorem ck_d648 : decode code 648 = .ok (.aload_n 0, 1) := by decide +kernel
theorem ck_d649 : decode code 649 = .ok (.iload_n 3, 1) := by decide +kernel
theorem ck_d650 : decode code 650 = .ok (.iconst 4, 1) := by decide +kernel
theorem ck_d651 : decode code 651 = .ok (.iadd, 1) := by decide +kernel
theorem ck_d652 : decode code 652 = .ok (.iaload, 1) := by decide +kernel
theorem ck_d653 : decode code 653 = .ok (.aload_n 0, 1) := by decide +kernel
theorem ck_d654 : decode code 654 = .ok (.iload_n 3, 1) := by decide +kernel
theorem ck_d655 : decode code 655 = .ok (.iconst 5, 1) := by decide +kernel
theorem ck_d656 : decode code 656 = .ok (.iadd, 1) := by decide +kernel
theorem ck_d657 : decode code 657 = .ok (.iaload, 1) := by decide +kernel
theorem ck_d658 : decode code 658 = .ok (.aload_n 0, 1) := by decide +kernel
theorem ck_d659 : decode code 659 = .ok (.iload_n 3, 1) := by decide +kernel
theorem ck_d660 : decode code 660 = .ok (.bipush 6, 2) := by decide +kernel
theorem ck_d662 : decode code 662 = .ok (.iadd, 1) := by decide +kernel
theorem ck_d663 : decode code 663 = .ok (.iaload, 1) := by decide +kernel
theorem ck_d664 : decode code 664 = .ok (.invokevirtual 67, 3) := by decide +kernel
theorem ck_d667 : decode code 667 = .ok (.aload_n 2, 1) := by decide +kernel
theorem ck_d668 : decode code 668 = .ok (.aload_n 0, 1) := by decide +kernel
theorem ck_d669 : decode code 669 = .ok (.iload_n 3, 1) := by decide +kernel
theorem ck_d670 : decode code 670 = .ok (.iconst 1, 1) := by decide +kernel
theorem ck_d671 : decode code 671 = .ok (.iadd, 1) := by decide +kernel
theorem ck_d672 : decode code 672 = .ok (.iaload, 1) := by decide +kernel
theorem ck_d673 : decode code 673 = .ok (.aload_n 0, 1) := by decide +kernel
theorem ck_d674 : decode code 674 = .ok (.iload_n 3, 1) := by decide +kernel
theorem ck_d675 : decode code 675 = .ok (.iconst 2, 1) := by decide +kernel
theorem ck_d676 : decode code 676 = .ok (.iadd, 1) := by decide +kernel
theorem ck_d677 : decode code 677 = .ok (.iaload, 1) := by decide +kernel
theorem ck_d678 : decode code 678 = .ok (.aload_n 0, 1) := by decide +kernel
theorem ck_d679 : decode code 679 = .ok (.iload_n 3, 1) := by decide +kernel
theorem ck_d680 : decode code 680 = .ok (.iconst 3, 1) := by decide +kernel
theorem ck_d681 : decode code 681 = .ok (.iadd, 1) := by decide +kernel
theorem ck_d682 : decode code 682 = .ok (.iaload, 1) := by decide +kernel
theorem ck_d683 : decode code 683 = .ok (.aload_n 0, 1) := by decide +kernel
theorem ck_d684 : decode code 684 = .ok (.iload_n 3, 1) := by decide +kernel
theorem ck_d685 : decode code 685 = .ok (.iconst 4, 1) := by decide +kernel
theorem ck_d686 : decode code 686 = .ok (.iadd, 1) := by decide +kernel
theorem ck_d687 : decode code 687 = .ok (.iaload, 1) := by decide +kernel
theorem ck_d688 : decode code 688 = .ok (.aload_n 0, 1) := by decide +kernel
theorem ck_d689 : decode code 689 = .ok (.iload_n 3, 1) := by decide +kernel
theorem ck_d690 : decode code 690 = .ok (.iconst 5, 1) := by decide +kernel
theorem ck_d691 : decode code 691 = .ok (.iadd, 1) := by decide +kernel
theorem ck_d692 : decode code 692 = .ok (.iaload, 1) := by decide +kernel
theorem ck_d693 : decode code 693 = .ok (.aload_n 0, 1) := by decide +kernel
theorem ck_d694 : decode code 694 = .ok (.iload_n 3, 1) := by decide +kernel
theorem ck_d695 : decode code 695 = .ok (.bipush 6, 2) := by decide +kernel
theorem ck_d697 : decode code 697 = .ok (.iadd, 1) := by decide +kernel
theorem ck_d698 : decode code 698 = .ok (.iaload, 1) := by decide +kernel
theorem ck_d699 : decode code 699 = .ok (.invokevirtual 71, 3) := by decide +kernel
theorem ck_d702 : decode code 702 = .ok (.if_icmp .eq 752, 3) := by decide +kernel
def ck_dt632 : List (Nat × Instr × Nat) := [(18, (.iload_n 3, 1)), (19, (.aload_n 0, 1)), (20, (.arraylength, 1)), (21, (.bipush 7, 2)), (23, (.isub, 1)), (24, (.if_icmp .gt 1436, 3)), (1454, (.iinc 3 7, 3)), (1457, (.goto (-1439), 3)), (1460, (.iconst 1, 1)), (1461, (.ireturn, 1)), (632, (.aload_n 1, 1)), (633, (.aload_n 0, 1)), (634, (.iload_n 3, 1)), (635, (.iconst 1, 1)), (636, (.iadd, 1)), (637, (.iaload, 1)), (638, (.aload_n 0, 1)), (639, (.iload_n 3, 1)), (640, (.iconst 2, 1)), (641, (.iadd, 1)), (642, (.iaload, 1)), (643, (.aload_n 0, 1)), (644, (.iload_n 3, 1)), (645, (.iconst 3, 1)), (646, (.iadd, 1)), (647, (.iaload, 1)), (648, (.aload_n 0, 1)), (649, (.iload_n 3, 1)), (650, (.iconst 4, 1)), (651, (.iadd, 1)), (652, (.iaload, 1)), (653, (.aload_n 0, 1)), (654, (.iload_n 3, 1)), (655, (.iconst 5, 1)), (656, (.iadd, 1)), (657, (.iaload, 1)), (658, (.aload_n 0, 1)), (659, (.iload_n 3, 1)), (660, (.bipush 6, 2)), (662, (.iadd, 1)), (663, (.iaload, 1)), (664, (.invokevirtual 67, 3)), (667, (.aload_n 2, 1)), (668, (.aload_n 0, 1)), (669, (.iload_n 3, 1)), (670, (.iconst 1, 1)), (671, (.iadd, 1)), (672, (.iaload, 1)), (673, (.aload_n 0, 1)), (674, (.iload_n 3, 1)), (675, (.iconst 2, 1)), (676, (.iadd, 1)), (677, (.iaload, 1)), (678, (.aload_n 0, 1)), (679, (.iload_n 3, 1)), (680, (.iconst 3, 1)), (681, (.iadd, 1)), (682, (.iaload, 1)), (683, (.aload_n 0, 1)), (684, (.iload_n 3, 1)), (685, (.iconst 4, 1)), (686, (.iadd, 1)), (687, (.iaload, 1)), (688, (.aload_n 0, 1)), (689, (.iload_n 3, 1)), (690, (.iconst 5, 1)), (691, (.iadd, 1)), (692, (.iaload, 1)), (693, (.aload_n 0, 1)), (694, (.iload_n 3, 1)), (695, (.bipush 6, 2)), (697, (.iadd, 1)), (698, (.iaload, 1)), (699, (.invokevirtual 71, 3)), (702, (.if_icmp .eq 752, 3))]
theorem ck_dk632 : ∀ q ∈ ck_dt632, decode code q.1 = .ok q.2 := (ck_cons ck_d18 (ck_cons ck_d19 (ck_cons ck_d20 (ck_cons ck_d21 (ck_cons ck_d23 (ck_cons ck_d24 (ck_cons ck_d1454 (ck_cons ck_d1457 (ck_cons ck_d1460 (ck_cons ck_d1461 (ck_cons ck_d632 (ck_cons ck_d633 (ck_cons ck_d634 (ck_cons ck_d635 (ck_cons ck_d636 (ck_cons ck_d637 (ck_cons ck_d638 (ck_cons ck_d639 (ck_cons ck_d640 (ck_cons ck_d641 (ck_cons ck_d642 (ck_cons ck_d643 (ck_cons ck_d644 (ck_cons ck_d645 (ck_cons ck_d646 (ck_cons ck_d647 (ck_cons ck_d648 (ck_cons ck_d649 (ck_cons ck_d650 (ck_cons ck_d651 (ck_cons ck_d652 (ck_cons ck_d653 (ck_cons ck_d654 (ck_cons ck_d655 (ck_cons ck_d656 (ck_cons ck_d657 (ck_cons ck_d658 (ck_cons ck_d659 (ck_cons ck_d660 (ck_cons ck_d662 (ck_cons ck_d663 (ck_cons ck_d664 (ck_cons ck_d667 (ck_cons ck_d668 (ck_cons ck_d669 (ck_cons ck_d670 (ck_cons ck_d671 (ck_cons ck_d672 (ck_cons ck_d673 (ck_cons ck_d674 (ck_cons ck_d675 (ck_cons ck_d676 (ck_cons ck_d677 (ck_cons ck_d678 (ck_cons ck_d679 (ck_cons ck_d680 (ck_cons ck_d681 (ck_cons ck_d682 (ck_cons ck_d683 (ck_cons ck_d684 (ck_cons ck_d685 (ck_cons ck_d686 (ck_cons ck_d687 (ck_cons ck_d688 (ck_cons ck_d689 (ck_cons ck_d690 (ck_cons ck_d691 (ck_cons ck_d692 (ck_cons ck_d693 (ck_cons ck_d694 (ck_cons ck_d695 (ck_cons ck_d697 (ck_cons ck_d698 (ck_cons ck_d699 (ck_cons ck_d702 ck_nil)))))))))))))))))))))))))))))))))))))))))))))))))))))))))))))))))))))))))))
def ck_cs632 : List ck_C := [ck_c191, ck_c193, ck_c195, ck_c197, ck_c199, ck_c201, ck_c202, ck_c203, ck_c204, ck_c205, ck_c206]
def ck_sF632 : ck_S := (List.replicate 7 ck_fI, [(0, .inr (2, 900)), (1, .inr (0, 0)), (2, .inr (0, 77)), (3, .inl (0, 0, 0))], [], [((0, 1), .inr (0, 1)), ((1, 1), .inl (0, 0)), ((77, 2), .inr (0, 78)), ((78, 1293), .inl (0, 0))], 101, 101, 109468)
set_option maxRecDepth 100000 in
theorem ck_lc632 : ck_run (ck_stepD ck_dt632 vwCl ck_mts ck_sh ck_T12 ck_cs632 ck_wrL 900 7) [] [] [] 600 [] 7 632 ck_sF632 = true := by decide +kernel
/-! case 707 -/
theorem ck_d707 : decode code 707 = .ok (.aload_n 1, 1) := by decide +kernel
theorem ck_d708 : decode code 708 = .ok (.invokevirtual 72, 3) := by decide +kernel
theorem ck_d711 : decode code 711 = .ok (.aload_n 2, 1) := by decide +kernel
theorem ck_d712 : decode code 712 = .ok (.invokevirtual 75, 3) := by decide +kernel
theorem ck_d715 : decode code 715 = .ok (.if_icmp .eq 739, 3) := by decide +kernel
def ck_dt707 : List (Nat × Instr × Nat) := [(18, (.iload_n 3, 1)), (19, (.aload_n 0, 1)), (20, (.arraylength, 1)), (21, (.bipush 7, 2)), (23, (.isub, 1)), (24, (.if_icmp .gt 1436, 3)), (1454, (.iinc 3 7, 3)), (1457, (.goto (-1439), 3)), (1460, (.iconst 1, 1)), (1461, (.ireturn, 1)), (707, (.aload_n 1, 1)), (708, (.invokevirtual 72, 3)), (711, (.aload_n 2, 1)), (712, (.invokevirtual 75, 3)), (715, (.if_icmp .eq 739, 3))]
theorem ck_dk707 : ∀ q ∈ ck_dt707, decode code q.1 = .ok q.2 := (ck_cons ck_d18 (ck_cons ck_d19 (ck_cons ck_d20 (ck_cons ck_d21 (ck_cons ck_d23 (ck_cons ck_d24 (ck_cons ck_d1454 (ck_cons ck_d1457 (ck_cons ck_d1460 (ck_cons ck_d1461 (ck_cons ck_d707 (ck_cons ck_d708 (ck_cons ck_d711 (ck_cons ck_d712 (ck_cons ck_d715 ck_nil)))))))))))))))
def ck_cs707 : List ck_C := [ck_c207, ck_c208]
def ck_sF707 : ck_S := (List.replicate 7 ck_fI, [(0, .inr (2, 900)), (1, .inr (0, 0)), (2, .inr (0, 77)), (3, .inl (0, 0, 0))], [], [((0, 4), .inr (0, 45)), ((45, 2), .inl (0, 0)), ((77, 8), .inl (0, 0))], 101, 101, 109468)
set_option maxRecDepth 100000 in
theorem ck_lc707 : ck_run (ck_stepD ck_dt707 vwCl ck_mts ck_sh ck_T12 ck_cs707 ck_wrL 900 7) [] [] [] 600 [] 7 707 ck_sF707 = true := by decide +kernel
/-! case 720 -/
theorem ck_d720 : decode code 720 = .ok (.aload_n 1, 1) := by decide +kernel
theorem ck_d721 : decode code 721 = .ok (.aload_n 0, 1) := by decide +kernel
theorem ck_d722 : decode code 722 = .ok (.iload_n 3, 1) := by decide +kernel
theorem ck_d723 : decode code 723 = .ok (.iconst 1, 1) := by decide +kernel
theorem ck_d724 : decode code 724 = .ok (.iadd, 1) := by decide +kernel
theorem ck_d725 : decode code 725 = .ok (.iaload, 1) := by decide +kernel
theorem ck_d726 : decode code 726 = .ok (.aload_n 0, 1) := by decide +kernel
theorem ck_d727 : decode code 727 = .ok (.iload_n 3, 1) := by decide +kernel
theorem ck_d728 : decode code 728 = .ok (.iconst 2, 1) := by decide +kernel
theorem ck_d729 : decode code 729 = .ok (.iadd, 1) := by decide +kernel
theorem ck_d730 : decode code 730 = .ok (.iaload, 1) := by decide +kernel
theorem ck_d731 : decode code 731 = .ok (.invokevirtual 76, 3) := by decide +kernel
theorem ck_d734 : decode code 734 = .ok (.aload_n 2, 1) := by decide +kernel
theorem ck_d735 : decode code 735 = .ok (.aload_n 0, 1) := by decide +kernel
theorem ck_d736 : decode code 736 = .ok (.iload_n 3, 1) := by decide +kernel
theorem ck_d737 : decode code 737 = .ok (.iconst 1, 1) := by decide +kernel
theorem ck_d738 : decode code 738 = .ok (.iadd, 1) := by decide +kernel
theorem ck_d739 : decode code 739 = .ok (.iaload, 1) := by decide +kernel
theorem ck_d740 : decode code 740 = .ok (.aload_n 0, 1) := by decide +kernel
theorem ck_d741 : decode code 741 = .ok (.iload_n 3, 1) := by decide +kernel
theorem ck_d742 : decode code 742 = .ok (.iconst 2, 1) := by decide +kernel
theorem ck_d743 : decode code 743 = .ok (.iadd, 1) := by decide +kernel
theorem ck_d744 : decode code 744 = .ok (.iaload, 1) := by decide +kernel
theorem ck_d745 : decode code 745 = .ok (.invokevirtual 79, 3) := by decide +kernel
theorem ck_d748 : decode code 748 = .ok (.if_icmp .eq 706, 3) := by decide +kernel
def ck_dt720 : List (Nat × Instr × Nat) := [(18, (.iload_n 3, 1)), (19, (.aload_n 0, 1)), (20, (.arraylength, 1)), (21, (.bipush 7, 2)), (23, (.isub, 1)), (24, (.if_icmp .gt 1436, 3)), (1454, (.iinc 3 7, 3)), (1457, (.goto (-1439), 3)), (1460, (.iconst 1, 1)), (1461, (.ireturn, 1)), (720, (.aload_n 1, 1)), (721, (.aload_n 0, 1)), (722, (.iload_n 3, 1)), (723, (.iconst 1, 1)), (724, (.iadd, 1)), (725, (.iaload, 1)), (726, (.aload_n 0, 1)), (727, (.iload_n 3, 1)), (728, (.iconst 2, 1)), (729, (.iadd, 1)), (730, (.iaload, 1)), (731, (.invokevirtual 76, 3)), (734, (.aload_n 2, 1)), (735, (.aload_n 0, 1)), (736, (.iload_n 3, 1)), (737, (.iconst 1, 1)), (738, (.iadd, 1)), (739, (.iaload, 1)), (740, (.aload_n 0, 1)), (741, (.iload_n 3, 1)), (742, (.iconst 2, 1)), (743, (.iadd, 1)), (744, (.iaload, 1)), (745, (.invokevirtual 79, 3)), (748, (.if_icmp .eq 706, 3))]
theorem ck_dk720 : ∀ q ∈ ck_dt720, decode code q.1 = .ok q.2 := (ck_cons ck_d18 (ck_cons ck_d19 (ck_cons ck_d20 (ck_cons ck_d21 (ck_cons ck_d23 (ck_cons ck_d24 (ck_cons ck_d1454 (ck_cons ck_d1457 (ck_cons ck_d1460 (ck_cons ck_d1461 (ck_cons ck_d720 (ck_cons ck_d721 (ck_cons ck_d722 (ck_cons ck_d723 (ck_cons ck_d724 (ck_cons ck_d725 (ck_cons ck_d726 (ck_cons ck_d727 (ck_cons ck_d728 (ck_cons ck_d729 (ck_cons ck_d730 (ck_cons ck_d731 (ck_cons ck_d734 (ck_cons ck_d735 (ck_cons ck_d736 (ck_cons ck_d737 (ck_cons ck_d738 (ck_cons ck_d739 (ck_cons ck_d740 (ck_cons ck_d741 (ck_cons ck_d742 (ck_cons ck_d743 (ck_cons ck_d744 (ck_cons ck_d745 (ck_cons ck_d748 ck_nil)))))))))))))))))))))))))))))))))))
def ck_cs720 : List ck_C := [ck_c210, ck_c212, ck_c214]
def ck_sF720 : ck_S := (List.replicate 7 ck_fI, [(0, .inr (2, 900)), (1, .inr (0, 0)), (2, .inr (0, 77)), (3, .inl (0, 0, 0))], [], [((0, 1), .inr (0, 1)), ((1, 15), .inl (0, 0)), ((77, 2), .inr (0, 78)), ((78, 1294), .inl (0, 0))], 101, 101, 109468)
set_option maxRecDepth 100000 in
theorem ck_lc720 : ck_run (ck_stepD ck_dt720 vwCl ck_mts ck_sh ck_T12 ck_cs720 ck_wrL 900 7) [] [] [] 600 [] 7 720 ck_sF720 = true := by decide +kernel
