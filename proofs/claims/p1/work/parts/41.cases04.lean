/-! case 753 -/
theorem ck_d753 : decode code 753 = .ok (.aload_n 1, 1) := by decide +kernel
theorem ck_d754 : decode code 754 = .ok (.aload_n 0, 1) := by decide +kernel
theorem ck_d755 : decode code 755 = .ok (.iload_n 3, 1) := by decide +kernel
theorem ck_d756 : decode code 756 = .ok (.iconst 1, 1) := by decide +kernel
theorem ck_d757 : decode code 757 = .ok (.iadd, 1) := by decide +kernel
theorem ck_d758 : decode code 758 = .ok (.iaload, 1) := by decide +kernel
theorem ck_d759 : decode code 759 = .ok (.invokevirtual 80, 3) := by decide +kernel
theorem ck_d762 : decode code 762 = .ok (.aload_n 2, 1) := by decide +kernel
theorem ck_d763 : decode code 763 = .ok (.aload_n 0, 1) := by decide +kernel
theorem ck_d764 : decode code 764 = .ok (.iload_n 3, 1) := by decide +kernel
theorem ck_d765 : decode code 765 = .ok (.iconst 1, 1) := by decide +kernel
theorem ck_d766 : decode code 766 = .ok (.iadd, 1) := by decide +kernel
theorem ck_d767 : decode code 767 = .ok (.iaload, 1) := by decide +kernel
theorem ck_d768 : decode code 768 = .ok (.invokevirtual 83, 3) := by decide +kernel
theorem ck_d771 : decode code 771 = .ok (.if_icmp .eq 683, 3) := by decide +kernel
def ck_dt753 : List (Nat × Instr × Nat) := [(18, (.iload_n 3, 1)), (19, (.aload_n 0, 1)), (20, (.arraylength, 1)), (21, (.bipush 7, 2)), (23, (.isub, 1)), (24, (.if_icmp .gt 1436, 3)), (1454, (.iinc 3 7, 3)), (1457, (.goto (-1439), 3)), (1460, (.iconst 1, 1)), (1461, (.ireturn, 1)), (753, (.aload_n 1, 1)), (754, (.aload_n 0, 1)), (755, (.iload_n 3, 1)), (756, (.iconst 1, 1)), (757, (.iadd, 1)), (758, (.iaload, 1)), (759, (.invokevirtual 80, 3)), (762, (.aload_n 2, 1)), (763, (.aload_n 0, 1)), (764, (.iload_n 3, 1)), (765, (.iconst 1, 1)), (766, (.iadd, 1)), (767, (.iaload, 1)), (768, (.invokevirtual 83, 3)), (771, (.if_icmp .eq 683, 3))]
theorem ck_dk753 : ∀ q ∈ ck_dt753, decode code q.1 = .ok q.2 := (ck_cons ck_d18 (ck_cons ck_d19 (ck_cons ck_d20 (ck_cons ck_d21 (ck_cons ck_d23 (ck_cons ck_d24 (ck_cons ck_d1454 (ck_cons ck_d1457 (ck_cons ck_d1460 (ck_cons ck_d1461 (ck_cons ck_d753 (ck_cons ck_d754 (ck_cons ck_d755 (ck_cons ck_d756 (ck_cons ck_d757 (ck_cons ck_d758 (ck_cons ck_d759 (ck_cons ck_d762 (ck_cons ck_d763 (ck_cons ck_d764 (ck_cons ck_d765 (ck_cons ck_d766 (ck_cons ck_d767 (ck_cons ck_d768 (ck_cons ck_d771 ck_nil)))))))))))))))))))))))))
def ck_cs753 : List ck_C := [ck_c215, ck_c216, ck_c217]
def ck_sF753 : ck_S := (List.replicate 7 ck_fI, [(0, .inr (2, 900)), (1, .inr (0, 0)), (2, .inr (0, 77)), (3, .inl (0, 0, 0))], [], [((0, 1), .inr (0, 1)), ((1, 15), .inl (0, 0)), ((77, 2), .inr (0, 78)), ((78, 1294), .inl (0, 0))], 101, 101, 109468)
set_option maxRecDepth 100000 in
theorem ck_lc753 : ck_run (ck_stepD ck_dt753 vwCl ck_mts ck_sh ck_T12 ck_cs753 ck_wrL 900 7) [] [] [] 600 [] 7 753 ck_sF753 = true := by decide +kernel
/-! case 776 -/
theorem ck_d776 : decode code 776 = .ok (.aload_n 1, 1) := by decide +kernel
theorem ck_d777 : decode code 777 = .ok (.aload_n 0, 1) := by decide +kernel
theorem ck_d778 : decode code 778 = .ok (.iload_n 3, 1) := by decide +kernel
theorem ck_d779 : decode code 779 = .ok (.iconst 1, 1) := by decide +kernel
theorem ck_d780 : decode code 780 = .ok (.iadd, 1) := by decide +kernel
theorem ck_d781 : decode code 781 = .ok (.iaload, 1) := by decide +kernel
theorem ck_d782 : decode code 782 = .ok (.aload_n 0, 1) := by decide +kernel
theorem ck_d783 : decode code 783 = .ok (.iload_n 3, 1) := by decide +kernel
theorem ck_d784 : decode code 784 = .ok (.iconst 2, 1) := by decide +kernel
theorem ck_d785 : decode code 785 = .ok (.iadd, 1) := by decide +kernel
theorem ck_d786 : decode code 786 = .ok (.iaload, 1) := by decide +kernel
theorem ck_d787 : decode code 787 = .ok (.aload_n 0, 1) := by decide +kernel
theorem ck_d788 : decode code 788 = .ok (.iload_n 3, 1) := by decide +kernel
theorem ck_d789 : decode code 789 = .ok (.iconst 3, 1) := by decide +kernel
theorem ck_d790 : decode code 790 = .ok (.iadd, 1) := by decide +kernel
theorem ck_d791 : decode code 791 = .ok (.iaload, 1) := by decide +kernel
theorem ck_d792 : decode code 792 = .ok (.invokevirtual 84, 3) := by decide +kernel
theorem ck_d795 : decode code 795 = .ok (.aload_n 2, 1) := by decide +kernel
theorem ck_d796 : decode code 796 = .ok (.aload_n 0, 1) := by decide +kernel
theorem ck_d797 : decode code 797 = .ok (.iload_n 3, 1) := by decide +kernel
theorem ck_d798 : decode code 798 = .ok (.iconst 1, 1) := by decide +kernel
theorem ck_d799 : decode code 799 = .ok (.iadd, 1) := by decide +kernel
theorem ck_d800 : decode code 800 = .ok (.iaload, 1) := by decide +kernel
theorem ck_d801 : decode code 801 = .ok (.aload_n 0, 1) := by decide +kernel
theorem ck_d802 : decode code 802 = .ok (.iload_n 3, 1) := by decide +kernel
theorem ck_d803 : decode code 803 = .ok (.iconst 2, 1) := by decide +kernel
theorem ck_d804 : decode code 804 = .ok (.iadd, 1) := by decide +kernel
theorem ck_d805 : decode code 805 = .ok (.iaload, 1) := by decide +kernel
theorem ck_d806 : decode code 806 = .ok (.aload_n 0, 1) := by decide +kernel
theorem ck_d807 : decode code 807 = .ok (.iload_n 3, 1) := by decide +kernel
theorem ck_d808 : decode code 808 = .ok (.iconst 3, 1) := by decide +kernel
theorem ck_d809 : decode code 809 = .ok (.iadd, 1) := by decide +kernel
theorem ck_d810 : decode code 810 = .ok (.iaload, 1) := by decide +kernel
theorem ck_d811 : decode code 811 = .ok (.invokevirtual 87, 3) := by decide +kernel
theorem ck_d814 : decode code 814 = .ok (.if_icmp .eq 640, 3) := by decide +kernel
def ck_dt776 : List (Nat × Instr × Nat) := [(18, (.iload_n 3, 1)), (19, (.aload_n 0, 1)), (20, (.arraylength, 1)), (21, (.bipush 7, 2)), (23, (.isub, 1)), (24, (.if_icmp .gt 1436, 3)), (1454, (.iinc 3 7, 3)), (1457, (.goto (-1439), 3)), (1460, (.iconst 1, 1)), (1461, (.ireturn, 1)), (776, (.aload_n 1, 1)), (777, (.aload_n 0, 1)), (778, (.iload_n 3, 1)), (779, (.iconst 1, 1)), (780, (.iadd, 1)), (781, (.iaload, 1)), (782, (.aload_n 0, 1)), (783, (.iload_n 3, 1)), (784, (.iconst 2, 1)), (785, (.iadd, 1)), (786, (.iaload, 1)), (787, (.aload_n 0, 1)), (788, (.iload_n 3, 1)), (789, (.iconst 3, 1)), (790, (.iadd, 1)), (791, (.iaload, 1)), (792, (.invokevirtual 84, 3)), (795, (.aload_n 2, 1)), (796, (.aload_n 0, 1)), (797, (.iload_n 3, 1)), (798, (.iconst 1, 1)), (799, (.iadd, 1)), (800, (.iaload, 1)), (801, (.aload_n 0, 1)), (802, (.iload_n 3, 1)), (803, (.iconst 2, 1)), (804, (.iadd, 1)), (805, (.iaload, 1)), (806, (.aload_n 0, 1)), (807, (.iload_n 3, 1)), (808, (.iconst 3, 1)), (809, (.iadd, 1)), (810, (.iaload, 1)), (811, (.invokevirtual 87, 3)), (814, (.if_icmp .eq 640, 3))]
theorem ck_dk776 : ∀ q ∈ ck_dt776, decode code q.1 = .ok q.2 := (ck_cons ck_d18 (ck_cons ck_d19 (ck_cons ck_d20 (ck_cons ck_d21 (ck_cons ck_d23 (ck_cons ck_d24 (ck_cons ck_d1454 (ck_cons ck_d1457 (ck_cons ck_d1460 (ck_cons ck_d1461 (ck_cons ck_d776 (ck_cons ck_d777 (ck_cons ck_d778 (ck_cons ck_d779 (ck_cons ck_d780 (ck_cons ck_d781 (ck_cons ck_d782 (ck_cons ck_d783 (ck_cons ck_d784 (ck_cons ck_d785 (ck_cons ck_d786 (ck_cons ck_d787 (ck_cons ck_d788 (ck_cons ck_d789 (ck_cons ck_d790 (ck_cons ck_d791 (ck_cons ck_d792 (ck_cons ck_d795 (ck_cons ck_d796 (ck_cons ck_d797 (ck_cons ck_d798 (ck_cons ck_d799 (ck_cons ck_d800 (ck_cons ck_d801 (ck_cons ck_d802 (ck_cons ck_d803 (ck_cons ck_d804 (ck_cons ck_d805 (ck_cons ck_d806 (ck_cons ck_d807 (ck_cons ck_d808 (ck_cons ck_d809 (ck_cons ck_d810 (ck_cons ck_d811 (ck_cons ck_d814 ck_nil)))))))))))))))))))))))))))))))))))))))))))))
def ck_cs776 : List ck_C := [ck_c220, ck_c222, ck_c224, ck_c227, ck_c229, ck_c231, ck_c232, ck_c233]
def ck_sF776 : ck_S := (List.replicate 7 ck_fI, [(0, .inr (2, 900)), (1, .inr (0, 0)), (2, .inr (0, 77)), (3, .inl (0, 0, 0))], [], [((0, 1), .inr (0, 1)), ((1, 15), .inl (0, 0)), ((77, 2), .inr (0, 78)), ((78, 0), .inl ((-1), 15)), ((78, 193), .inl (0, 0)), ((78, 194), .inl (0, 0)), ((78, 195), .inl (0, 0)), ((78, 196), .inl (0, 0)), ((78, 197), .inl (0, 0)), ((78, 198), .inl (0, 0)), ((78, 199), .inl (0, 0)), ((78, 200), .inl (0, 0)), ((78, 201), .inl (0, 0)), ((78, 202), .inl (0, 0)), ((78, 203), .inl (0, 0)), ((78, 204), .inl (0, 0)), ((78, 1293), .inl (0, 0)), ((78, 1294), .inl (0, 0)), ((78, 1295), .inl (0, 0))], 101, 101, 109468)
set_option maxRecDepth 100000 in
theorem ck_lc776 : ck_run (ck_stepD ck_dt776 vwCl ck_mts ck_sh ck_T12 ck_cs776 ck_wrL 900 7) [] [] [] 600 [] 7 776 ck_sF776 = true := by decide +kernel
/-! case 819 -/
theorem ck_d819 : decode code 819 = .ok (.aload_n 1, 1) := by decide +kernel
theorem ck_d820 : decode code 820 = .ok (.aload_n 0, 1) := by decide +kernel
theorem ck_d821 : decode code 821 = .ok (.iload_n 3, 1) := by decide +kernel
theorem ck_d822 : decode code 822 = .ok (.iconst 1, 1) := by decide +kernel
theorem ck_d823 : decode code 823 = .ok (.iadd, 1) := by decide +kernel
theorem ck_d824 : decode code 824 = .ok (.iaload, 1) := by decide +kernel
theorem ck_d825 : decode code 825 = .ok (.aload_n 0, 1) := by decide +kernel
theorem ck_d826 : decode code 826 = .ok (.iload_n 3, 1) := by decide +kernel
theorem ck_d827 : decode code 827 = .ok (.iconst 2, 1) := by decide +kernel
theorem ck_d828 : decode code 828 = .ok (.iadd, 1) := by decide +kernel
theorem ck_d829 : decode code 829 = .ok (.iaload, 1) := by decide +kernel
theorem ck_d830 : decode code 830 = .ok (.invokevirtual 88, 3) := by decide +kernel
theorem ck_d833 : decode code 833 = .ok (.aload_n 2, 1) := by decide +kernel
theorem ck_d834 : decode code 834 = .ok (.aload_n 0, 1) := by decide +kernel
theorem ck_d835 : decode code 835 = .ok (.iload_n 3, 1) := by decide +kernel
theorem ck_d836 : decode code 836 = .ok (.iconst 1, 1) := by decide +kernel
theorem ck_d837 : decode code 837 = .ok (.iadd, 1) := by decide +kernel
theorem ck_d838 : decode code 838 = .ok (.iaload, 1) := by decide +kernel
theorem ck_d839 : decode code 839 = .ok (.aload_n 0, 1) := by decide +kernel
theorem ck_d840 : decode code 840 = .ok (.iload_n 3, 1) := by decide +kernel
theorem ck_d841 : decode code 841 = .ok (.iconst 2, 1) := by decide +kernel
theorem ck_d842 : decode code 842 = .ok (.iadd, 1) := by decide +kernel
theorem ck_d843 : decode code 843 = .ok (.iaload, 1) := by decide +kernel
theorem ck_d844 : decode code 844 = .ok (.invokevirtual 91, 3) := by decide +kernel
theorem ck_d847 : decode code 847 = .ok (.if_icmp .eq 607, 3) := by decide +kernel
def ck_dt819 : List (Nat × Instr × Nat) := [(18, (.iload_n 3, 1)), (19, (.aload_n 0, 1)), (20, (.arraylength, 1)), (21, (.bipush 7, 2)), (23, (.isub, 1)), (24, (.if_icmp .gt 1436, 3)), (1454, (.iinc 3 7, 3)), (1457, (.goto (-1439), 3)), (1460, (.iconst 1, 1)), (1461, (.ireturn, 1)), (819, (.aload_n 1, 1)), (820, (.aload_n 0, 1)), (821, (.iload_n 3, 1)), (822, (.iconst 1, 1)), (823, (.iadd, 1)), (824, (.iaload, 1)), (825, (.aload_n 0, 1)), (826, (.iload_n 3, 1)), (827, (.iconst 2, 1)), (828, (.iadd, 1)), (829, (.iaload, 1)), (830, (.invokevirtual 88, 3)), (833, (.aload_n 2, 1)), (834, (.aload_n 0, 1)), (835, (.iload_n 3, 1)), (836, (.iconst 1, 1)), (837, (.iadd, 1)), (838, (.iaload, 1)), (839, (.aload_n 0, 1)), (840, (.iload_n 3, 1)), (841, (.iconst 2, 1)), (842, (.iadd, 1)), (843, (.iaload, 1)), (844, (.invokevirtual 91, 3)), (847, (.if_icmp .eq 607, 3))]
theorem ck_dk819 : ∀ q ∈ ck_dt819, decode code q.1 = .ok q.2 := (ck_cons ck_d18 (ck_cons ck_d19 (ck_cons ck_d20 (ck_cons ck_d21 (ck_cons ck_d23 (ck_cons ck_d24 (ck_cons ck_d1454 (ck_cons ck_d1457 (ck_cons ck_d1460 (ck_cons ck_d1461 (ck_cons ck_d819 (ck_cons ck_d820 (ck_cons ck_d821 (ck_cons ck_d822 (ck_cons ck_d823 (ck_cons ck_d824 (ck_cons ck_d825 (ck_cons ck_d826 (ck_cons ck_d827 (ck_cons ck_d828 (ck_cons ck_d829 (ck_cons ck_d830 (ck_cons ck_d833 (ck_cons ck_d834 (ck_cons ck_d835 (ck_cons ck_d836 (ck_cons ck_d837 (ck_cons ck_d838 (ck_cons ck_d839 (ck_cons ck_d840 (ck_cons ck_d841 (ck_cons ck_d842 (ck_cons ck_d843 (ck_cons ck_d844 (ck_cons ck_d847 ck_nil)))))))))))))))))))))))))))))))))))
def ck_cs819 : List ck_C := [ck_c235, ck_c236, ck_c237]
def ck_sF819 : ck_S := (List.replicate 7 ck_fI, [(0, .inr (2, 900)), (1, .inr (0, 0)), (2, .inr (0, 77)), (3, .inl (0, 0, 0))], [], [((0, 1), .inr (0, 1)), ((1, 1), .inl (0, 0)), ((77, 2), .inr (0, 78)), ((78, 1293), .inl (0, 0))], 101, 101, 109468)
set_option maxRecDepth 100000 in
theorem ck_lc819 : ck_run (ck_stepD ck_dt819 vwCl ck_mts ck_sh ck_T12 ck_cs819 ck_wrL 900 7) [] [] [] 600 [] 7 819 ck_sF819 = true := by decide +kernel
/-! case 852 -/
theorem ck_d852 : decode code 852 = .ok (.aload_n 1, 1) := by decide +kernel
theorem ck_d853 : decode code 853 = .ok (.aload_n 0, 1) := by decide +kernel
theorem ck_d854 : decode code 854 = .ok (.iload_n 3, 1) := by decide +kernel
theorem ck_d855 : decode code 855 = .ok (.iconst 1, 1) := by decide +kernel
theorem ck_d856 : decode code 856 = .ok (.iadd, 1) := by decide +kernel
theorem ck_d857 : decode code 857 = .ok (.iaload, 1) := by decide +kernel
theorem ck_d858 : decode code 858 = .ok (.aload_n 0, 1) := by decide +kernel
theorem ck_d859 : decode code 859 = .ok (.iload_n 3, 1) := by decide +kernel
theorem ck_d860 : decode code 860 = .ok (.iconst 2, 1) := by decide +kernel
theorem ck_d861 : decode code 861 = .ok (.iadd, 1) := by decide +kernel
theorem ck_d862 : decode code 862 = .ok (.iaload, 1) := by decide +kernel
theorem ck_d863 : decode code 863 = .ok (.invokevirtual 92, 3) := by decide +kernel
theorem ck_d866 : decode code 866 = .ok (.aload_n 2, 1) := by decide +kernel
theorem ck_d867 : decode code 867 = .ok (.aload_n 0, 1) := by decide +kernel
theorem ck_d868 : decode code 868 = .ok (.iload_n 3, 1) := by decide +kernel
theorem ck_d869 : decode code 869 = .ok (.iconst 1, 1) := by decide +kernel
theorem ck_d870 : decode code 870 = .ok (.iadd, 1) := by decide +kernel
theorem ck_d871 : decode code 871 = .ok (.iaload, 1) := by decide +kernel
theorem ck_d872 : decode code 872 = .ok (.aload_n 0, 1) := by decide +kernel
theorem ck_d873 : decode code 873 = .ok (.iload_n 3, 1) := by decide +kernel
theorem ck_d874 : decode code 874 = .ok (.iconst 2, 1) := by decide +kernel
theorem ck_d875 : decode code 875 = .ok (.iadd, 1) := by decide +kernel
theorem ck_d876 : decode code 876 = .ok (.iaload, 1) := by decide +kernel
theorem ck_d877 : decode code 877 = .ok (.invokevirtual 95, 3) := by decide +kernel
theorem ck_d880 : decode code 880 = .ok (.if_icmp .eq 574, 3) := by decide +kernel
def ck_dt852 : List (Nat × Instr × Nat) := [(18, (.iload_n 3, 1)), (19, (.aload_n 0, 1)), (20, (.arraylength, 1)), (21, (.bipush 7, 2)), (23, (.isub, 1)), (24, (.if_icmp .gt 1436, 3)), (1454, (.iinc 3 7, 3)), (1457, (.goto (-1439), 3)), (1460, (.iconst 1, 1)), (1461, (.ireturn, 1)), (852, (.aload_n 1, 1)), (853, (.aload_n 0, 1)), (854, (.iload_n 3, 1)), (855, (.iconst 1, 1)), (856, (.iadd, 1)), (857, (.iaload, 1)), (858, (.aload_n 0, 1)), (859, (.iload_n 3, 1)), (860, (.iconst 2, 1)), (861, (.iadd, 1)), (862, (.iaload, 1)), (863, (.invokevirtual 92, 3)), (866, (.aload_n 2, 1)), (867, (.aload_n 0, 1)), (868, (.iload_n 3, 1)), (869, (.iconst 1, 1)), (870, (.iadd, 1)), (871, (.iaload, 1)), (872, (.aload_n 0, 1)), (873, (.iload_n 3, 1)), (874, (.iconst 2, 1)), (875, (.iadd, 1)), (876, (.iaload, 1)), (877, (.invokevirtual 95, 3)), (880, (.if_icmp .eq 574, 3))]
theorem ck_dk852 : ∀ q ∈ ck_dt852, decode code q.1 = .ok q.2 := (ck_cons ck_d18 (ck_cons ck_d19 (ck_cons ck_d20 (ck_cons ck_d21 (ck_cons ck_d23 (ck_cons ck_d24 (ck_cons ck_d1454 (ck_cons ck_d1457 (ck_cons ck_d1460 (ck_cons ck_d1461 (ck_cons ck_d852 (ck_cons ck_d853 (ck_cons ck_d854 (ck_cons ck_d855 (ck_cons ck_d856 (ck_cons ck_d857 (ck_cons ck_d858 (ck_cons ck_d859 (ck_cons ck_d860 (ck_cons ck_d861 (ck_cons ck_d862 (ck_cons ck_d863 (ck_cons ck_d866 (ck_cons ck_d867 (ck_cons ck_d868 (ck_cons ck_d869 (ck_cons ck_d870 (ck_cons ck_d871 (ck_cons ck_d872 (ck_cons ck_d873 (ck_cons ck_d874 (ck_cons ck_d875 (ck_cons ck_d876 (ck_cons ck_d877 (ck_cons ck_d880 ck_nil)))))))))))))))))))))))))))))))))))
def ck_cs852 : List ck_C := [ck_c238, ck_c239, ck_c240]
def ck_sF852 : ck_S := (List.replicate 7 ck_fI, [(0, .inr (2, 900)), (1, .inr (0, 0)), (2, .inr (0, 77)), (3, .inl (0, 0, 0))], [], [((0, 1), .inr (0, 1)), ((1, 1), .inl (0, 0)), ((77, 2), .inr (0, 78)), ((78, 1293), .inl (0, 0))], 101, 101, 109468)
set_option maxRecDepth 100000 in
theorem ck_lc852 : ck_run (ck_stepD ck_dt852 vwCl ck_mts ck_sh ck_T12 ck_cs852 ck_wrL 900 7) [] [] [] 600 [] 7 852 ck_sF852 = true := by decide +kernel
