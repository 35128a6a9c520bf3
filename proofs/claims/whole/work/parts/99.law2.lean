/-! ===== printed by wip/whole/gen99.py: the instructions of the law ===== -/
def zLd_325 : List (Nat × Instr × Nat) := [(643, .ireturn, 1), (644, .iload 6, 2), (646, .ifCond .ne 15, 3), (649, .aload_n 3, 1), (650, .iconst 0, 1), (651, .laload, 1), (652, .iload 7, 2), (654, .i2l, 1), (655, .lcmp, 1), (656, .ifCond .eq 5, 3), (659, .iconst 0, 1), (660, .ireturn, 1), (661, .goto 1031, 3), (664, .aload_n 1, 1), (665, .invokevirtual 136, 3), (668, .aload_n 2, 1), (669, .invokevirtual 139, 3), (672, .if_icmp .eq 1020, 3), (675, .iconst 0, 1), (676, .ireturn, 1), (677, .aload_n 1, 1), (678, .aload_n 0, 1), (679, .iload 5, 2), (681, .iconst 1, 1), (682, .iadd, 1), (683, .iaload, 1), (684, .aload_n 0, 1), (685, .iload 5, 2), (687, .iconst 2, 1), (688, .iadd, 1), (689, .iaload, 1), (690, .aload_n 3, 1), (691, .invokestatic 140, 3), (694, .istore 6, 2), (696, .aload_n 2, 1), (697, .aload_n 0, 1), (698, .iload 5, 2), (700, .iconst 1, 1), (701, .iadd, 1), (702, .iaload, 1), (703, .aload_n 0, 1), (704, .iload 5, 2), (706, .iconst 2, 1), (707, .iadd, 1), (708, .iaload, 1), (709, .invokevirtual 142, 3), (712, .istore 7, 2), (714, .aload_n 2, 1), (715, .invokevirtual 111, 3), (718, .iload 6, 2)]
theorem zLd_325_ok : zLdk cL_law zLd_325 = true := by decide +kernel
theorem dL_law_643 : decode cL_law 643 = .ok (.ireturn, 1) := zLdk_at zLd_325_ok (k := 0) rfl
theorem dL_law_644 : decode cL_law 644 = .ok (.iload 6, 2) := zLdk_at zLd_325_ok (k := 1) rfl
theorem dL_law_646 : decode cL_law 646 = .ok (.ifCond .ne 15, 3) := zLdk_at zLd_325_ok (k := 2) rfl
theorem dL_law_649 : decode cL_law 649 = .ok (.aload_n 3, 1) := zLdk_at zLd_325_ok (k := 3) rfl
theorem dL_law_650 : decode cL_law 650 = .ok (.iconst 0, 1) := zLdk_at zLd_325_ok (k := 4) rfl
theorem dL_law_651 : decode cL_law 651 = .ok (.laload, 1) := zLdk_at zLd_325_ok (k := 5) rfl
theorem dL_law_652 : decode cL_law 652 = .ok (.iload 7, 2) := zLdk_at zLd_325_ok (k := 6) rfl
theorem dL_law_654 : decode cL_law 654 = .ok (.i2l, 1) := zLdk_at zLd_325_ok (k := 7) rfl
theorem dL_law_655 : decode cL_law 655 = .ok (.lcmp, 1) := zLdk_at zLd_325_ok (k := 8) rfl
theorem dL_law_656 : decode cL_law 656 = .ok (.ifCond .eq 5, 3) := zLdk_at zLd_325_ok (k := 9) rfl
theorem dL_law_659 : decode cL_law 659 = .ok (.iconst 0, 1) := zLdk_at zLd_325_ok (k := 10) rfl
theorem dL_law_660 : decode cL_law 660 = .ok (.ireturn, 1) := zLdk_at zLd_325_ok (k := 11) rfl
theorem dL_law_661 : decode cL_law 661 = .ok (.goto 1031, 3) := zLdk_at zLd_325_ok (k := 12) rfl
theorem dL_law_664 : decode cL_law 664 = .ok (.aload_n 1, 1) := zLdk_at zLd_325_ok (k := 13) rfl
theorem dL_law_665 : decode cL_law 665 = .ok (.invokevirtual 136, 3) := zLdk_at zLd_325_ok (k := 14) rfl
theorem dL_law_668 : decode cL_law 668 = .ok (.aload_n 2, 1) := zLdk_at zLd_325_ok (k := 15) rfl
theorem dL_law_669 : decode cL_law 669 = .ok (.invokevirtual 139, 3) := zLdk_at zLd_325_ok (k := 16) rfl
theorem dL_law_672 : decode cL_law 672 = .ok (.if_icmp .eq 1020, 3) := zLdk_at zLd_325_ok (k := 17) rfl
theorem dL_law_675 : decode cL_law 675 = .ok (.iconst 0, 1) := zLdk_at zLd_325_ok (k := 18) rfl
theorem dL_law_676 : decode cL_law 676 = .ok (.ireturn, 1) := zLdk_at zLd_325_ok (k := 19) rfl
theorem dL_law_677 : decode cL_law 677 = .ok (.aload_n 1, 1) := zLdk_at zLd_325_ok (k := 20) rfl
theorem dL_law_678 : decode cL_law 678 = .ok (.aload_n 0, 1) := zLdk_at zLd_325_ok (k := 21) rfl
theorem dL_law_679 : decode cL_law 679 = .ok (.iload 5, 2) := zLdk_at zLd_325_ok (k := 22) rfl
theorem dL_law_681 : decode cL_law 681 = .ok (.iconst 1, 1) := zLdk_at zLd_325_ok (k := 23) rfl
theorem dL_law_682 : decode cL_law 682 = .ok (.iadd, 1) := zLdk_at zLd_325_ok (k := 24) rfl
theorem dL_law_683 : decode cL_law 683 = .ok (.iaload, 1) := zLdk_at zLd_325_ok (k := 25) rfl
theorem dL_law_684 : decode cL_law 684 = .ok (.aload_n 0, 1) := zLdk_at zLd_325_ok (k := 26) rfl
theorem dL_law_685 : decode cL_law 685 = .ok (.iload 5, 2) := zLdk_at zLd_325_ok (k := 27) rfl
theorem dL_law_687 : decode cL_law 687 = .ok (.iconst 2, 1) := zLdk_at zLd_325_ok (k := 28) rfl
theorem dL_law_688 : decode cL_law 688 = .ok (.iadd, 1) := zLdk_at zLd_325_ok (k := 29) rfl
theorem dL_law_689 : decode cL_law 689 = .ok (.iaload, 1) := zLdk_at zLd_325_ok (k := 30) rfl
theorem dL_law_690 : decode cL_law 690 = .ok (.aload_n 3, 1) := zLdk_at zLd_325_ok (k := 31) rfl
theorem dL_law_691 : decode cL_law 691 = .ok (.invokestatic 140, 3) := zLdk_at zLd_325_ok (k := 32) rfl
theorem dL_law_694 : decode cL_law 694 = .ok (.istore 6, 2) := zLdk_at zLd_325_ok (k := 33) rfl
theorem dL_law_696 : decode cL_law 696 = .ok (.aload_n 2, 1) := zLdk_at zLd_325_ok (k := 34) rfl
theorem dL_law_697 : decode cL_law 697 = .ok (.aload_n 0, 1) := zLdk_at zLd_325_ok (k := 35) rfl
theorem dL_law_698 : decode cL_law 698 = .ok (.iload 5, 2) := zLdk_at zLd_325_ok (k := 36) rfl
theorem dL_law_700 : decode cL_law 700 = .ok (.iconst 1, 1) := zLdk_at zLd_325_ok (k := 37) rfl
theorem dL_law_701 : decode cL_law 701 = .ok (.iadd, 1) := zLdk_at zLd_325_ok (k := 38) rfl
theorem dL_law_702 : decode cL_law 702 = .ok (.iaload, 1) := zLdk_at zLd_325_ok (k := 39) rfl
theorem dL_law_703 : decode cL_law 703 = .ok (.aload_n 0, 1) := zLdk_at zLd_325_ok (k := 40) rfl
theorem dL_law_704 : decode cL_law 704 = .ok (.iload 5, 2) := zLdk_at zLd_325_ok (k := 41) rfl
theorem dL_law_706 : decode cL_law 706 = .ok (.iconst 2, 1) := zLdk_at zLd_325_ok (k := 42) rfl
theorem dL_law_707 : decode cL_law 707 = .ok (.iadd, 1) := zLdk_at zLd_325_ok (k := 43) rfl
theorem dL_law_708 : decode cL_law 708 = .ok (.iaload, 1) := zLdk_at zLd_325_ok (k := 44) rfl
theorem dL_law_709 : decode cL_law 709 = .ok (.invokevirtual 142, 3) := zLdk_at zLd_325_ok (k := 45) rfl
theorem dL_law_712 : decode cL_law 712 = .ok (.istore 7, 2) := zLdk_at zLd_325_ok (k := 46) rfl
theorem dL_law_714 : decode cL_law 714 = .ok (.aload_n 2, 1) := zLdk_at zLd_325_ok (k := 47) rfl
theorem dL_law_715 : decode cL_law 715 = .ok (.invokevirtual 111, 3) := zLdk_at zLd_325_ok (k := 48) rfl
theorem dL_law_718 : decode cL_law 718 = .ok (.iload 6, 2) := zLdk_at zLd_325_ok (k := 49) rfl
def zLd_375 : List (Nat × Instr × Nat) := [(720, .if_icmp .eq 5, 3), (723, .iconst 0, 1), (724, .ireturn, 1), (725, .iload 6, 2), (727, .ifCond .ne 15, 3), (730, .aload_n 3, 1), (731, .iconst 0, 1), (732, .laload, 1), (733, .iload 7, 2), (735, .i2l, 1), (736, .lcmp, 1), (737, .ifCond .eq 5, 3), (740, .iconst 0, 1), (741, .ireturn, 1), (742, .goto 950, 3), (745, .aload_n 1, 1), (746, .aload_n 0, 1), (747, .iload 5, 2), (749, .iconst 1, 1), (750, .iadd, 1), (751, .iaload, 1), (752, .aload_n 3, 1), (753, .invokestatic 143, 3), (756, .istore 6, 2), (758, .aload_n 2, 1), (759, .aload_n 0, 1), (760, .iload 5, 2), (762, .iconst 1, 1), (763, .iadd, 1), (764, .iaload, 1), (765, .invokevirtual 145, 3), (768, .istore 7, 2), (770, .aload_n 2, 1), (771, .invokevirtual 111, 3), (774, .iload 6, 2), (776, .if_icmp .eq 5, 3), (779, .iconst 0, 1), (780, .ireturn, 1), (781, .iload 6, 2), (783, .ifCond .ne 15, 3), (786, .aload_n 3, 1), (787, .iconst 0, 1), (788, .laload, 1), (789, .iload 7, 2), (791, .i2l, 1), (792, .lcmp, 1), (793, .ifCond .eq 5, 3), (796, .iconst 0, 1), (797, .ireturn, 1), (798, .goto 894, 3)]
theorem zLd_375_ok : zLdk cL_law zLd_375 = true := by decide +kernel
theorem dL_law_720 : decode cL_law 720 = .ok (.if_icmp .eq 5, 3) := zLdk_at zLd_375_ok (k := 0) rfl
theorem dL_law_723 : decode cL_law 723 = .ok (.iconst 0, 1) := zLdk_at zLd_375_ok (k := 1) rfl
theorem dL_law_724 : decode cL_law 724 = .ok (.ireturn, 1) := zLdk_at zLd_375_ok (k := 2) rfl
theorem dL_law_725 : decode cL_law 725 = .ok (.iload 6, 2) := zLdk_at zLd_375_ok (k := 3) rfl
theorem dL_law_727 : decode cL_law 727 = .ok (.ifCond .ne 15, 3) := zLdk_at zLd_375_ok (k := 4) rfl
theorem dL_law_730 : decode cL_law 730 = .ok (.aload_n 3, 1) := zLdk_at zLd_375_ok (k := 5) rfl
theorem dL_law_731 : decode cL_law 731 = .ok (.iconst 0, 1) := zLdk_at zLd_375_ok (k := 6) rfl
theorem dL_law_732 : decode cL_law 732 = .ok (.laload, 1) := zLdk_at zLd_375_ok (k := 7) rfl
theorem dL_law_733 : decode cL_law 733 = .ok (.iload 7, 2) := zLdk_at zLd_375_ok (k := 8) rfl
theorem dL_law_735 : decode cL_law 735 = .ok (.i2l, 1) := zLdk_at zLd_375_ok (k := 9) rfl
theorem dL_law_736 : decode cL_law 736 = .ok (.lcmp, 1) := zLdk_at zLd_375_ok (k := 10) rfl
theorem dL_law_737 : decode cL_law 737 = .ok (.ifCond .eq 5, 3) := zLdk_at zLd_375_ok (k := 11) rfl
theorem dL_law_740 : decode cL_law 740 = .ok (.iconst 0, 1) := zLdk_at zLd_375_ok (k := 12) rfl
theorem dL_law_741 : decode cL_law 741 = .ok (.ireturn, 1) := zLdk_at zLd_375_ok (k := 13) rfl
theorem dL_law_742 : decode cL_law 742 = .ok (.goto 950, 3) := zLdk_at zLd_375_ok (k := 14) rfl
theorem dL_law_745 : decode cL_law 745 = .ok (.aload_n 1, 1) := zLdk_at zLd_375_ok (k := 15) rfl
theorem dL_law_746 : decode cL_law 746 = .ok (.aload_n 0, 1) := zLdk_at zLd_375_ok (k := 16) rfl
theorem dL_law_747 : decode cL_law 747 = .ok (.iload 5, 2) := zLdk_at zLd_375_ok (k := 17) rfl
theorem dL_law_749 : decode cL_law 749 = .ok (.iconst 1, 1) := zLdk_at zLd_375_ok (k := 18) rfl
theorem dL_law_750 : decode cL_law 750 = .ok (.iadd, 1) := zLdk_at zLd_375_ok (k := 19) rfl
theorem dL_law_751 : decode cL_law 751 = .ok (.iaload, 1) := zLdk_at zLd_375_ok (k := 20) rfl
theorem dL_law_752 : decode cL_law 752 = .ok (.aload_n 3, 1) := zLdk_at zLd_375_ok (k := 21) rfl
theorem dL_law_753 : decode cL_law 753 = .ok (.invokestatic 143, 3) := zLdk_at zLd_375_ok (k := 22) rfl
theorem dL_law_756 : decode cL_law 756 = .ok (.istore 6, 2) := zLdk_at zLd_375_ok (k := 23) rfl
theorem dL_law_758 : decode cL_law 758 = .ok (.aload_n 2, 1) := zLdk_at zLd_375_ok (k := 24) rfl
theorem dL_law_759 : decode cL_law 759 = .ok (.aload_n 0, 1) := zLdk_at zLd_375_ok (k := 25) rfl
theorem dL_law_760 : decode cL_law 760 = .ok (.iload 5, 2) := zLdk_at zLd_375_ok (k := 26) rfl
theorem dL_law_762 : decode cL_law 762 = .ok (.iconst 1, 1) := zLdk_at zLd_375_ok (k := 27) rfl
theorem dL_law_763 : decode cL_law 763 = .ok (.iadd, 1) := zLdk_at zLd_375_ok (k := 28) rfl
theorem dL_law_764 : decode cL_law 764 = .ok (.iaload, 1) := zLdk_at zLd_375_ok (k := 29) rfl
theorem dL_law_765 : decode cL_law 765 = .ok (.invokevirtual 145, 3) := zLdk_at zLd_375_ok (k := 30) rfl
theorem dL_law_768 : decode cL_law 768 = .ok (.istore 7, 2) := zLdk_at zLd_375_ok (k := 31) rfl
theorem dL_law_770 : decode cL_law 770 = .ok (.aload_n 2, 1) := zLdk_at zLd_375_ok (k := 32) rfl
theorem dL_law_771 : decode cL_law 771 = .ok (.invokevirtual 111, 3) := zLdk_at zLd_375_ok (k := 33) rfl
theorem dL_law_774 : decode cL_law 774 = .ok (.iload 6, 2) := zLdk_at zLd_375_ok (k := 34) rfl
theorem dL_law_776 : decode cL_law 776 = .ok (.if_icmp .eq 5, 3) := zLdk_at zLd_375_ok (k := 35) rfl
theorem dL_law_779 : decode cL_law 779 = .ok (.iconst 0, 1) := zLdk_at zLd_375_ok (k := 36) rfl
theorem dL_law_780 : decode cL_law 780 = .ok (.ireturn, 1) := zLdk_at zLd_375_ok (k := 37) rfl
theorem dL_law_781 : decode cL_law 781 = .ok (.iload 6, 2) := zLdk_at zLd_375_ok (k := 38) rfl
theorem dL_law_783 : decode cL_law 783 = .ok (.ifCond .ne 15, 3) := zLdk_at zLd_375_ok (k := 39) rfl
theorem dL_law_786 : decode cL_law 786 = .ok (.aload_n 3, 1) := zLdk_at zLd_375_ok (k := 40) rfl
theorem dL_law_787 : decode cL_law 787 = .ok (.iconst 0, 1) := zLdk_at zLd_375_ok (k := 41) rfl
theorem dL_law_788 : decode cL_law 788 = .ok (.laload, 1) := zLdk_at zLd_375_ok (k := 42) rfl
theorem dL_law_789 : decode cL_law 789 = .ok (.iload 7, 2) := zLdk_at zLd_375_ok (k := 43) rfl
theorem dL_law_791 : decode cL_law 791 = .ok (.i2l, 1) := zLdk_at zLd_375_ok (k := 44) rfl
theorem dL_law_792 : decode cL_law 792 = .ok (.lcmp, 1) := zLdk_at zLd_375_ok (k := 45) rfl
theorem dL_law_793 : decode cL_law 793 = .ok (.ifCond .eq 5, 3) := zLdk_at zLd_375_ok (k := 46) rfl
theorem dL_law_796 : decode cL_law 796 = .ok (.iconst 0, 1) := zLdk_at zLd_375_ok (k := 47) rfl
theorem dL_law_797 : decode cL_law 797 = .ok (.ireturn, 1) := zLdk_at zLd_375_ok (k := 48) rfl
theorem dL_law_798 : decode cL_law 798 = .ok (.goto 894, 3) := zLdk_at zLd_375_ok (k := 49) rfl
def zLd_425 : List (Nat × Instr × Nat) := [(801, .aload_n 1, 1), (802, .aload_n 0, 1), (803, .iload 5, 2), (805, .iconst 1, 1), (806, .iadd, 1), (807, .iaload, 1), (808, .aload_n 0, 1), (809, .iload 5, 2), (811, .iconst 2, 1), (812, .iadd, 1), (813, .iaload, 1), (814, .aload_n 3, 1), (815, .invokestatic 146, 3), (818, .istore 6, 2), (820, .aload_n 2, 1), (821, .aload_n 0, 1), (822, .iload 5, 2), (824, .iconst 1, 1), (825, .iadd, 1), (826, .iaload, 1), (827, .aload_n 0, 1), (828, .iload 5, 2), (830, .iconst 2, 1), (831, .iadd, 1), (832, .iaload, 1), (833, .invokevirtual 148, 3), (836, .istore 7, 2), (838, .aload_n 2, 1), (839, .invokevirtual 111, 3), (842, .iload 6, 2), (844, .if_icmp .eq 5, 3), (847, .iconst 0, 1), (848, .ireturn, 1), (849, .iload 6, 2), (851, .ifCond .ne 15, 3), (854, .aload_n 3, 1), (855, .iconst 0, 1), (856, .laload, 1), (857, .iload 7, 2), (859, .i2l, 1), (860, .lcmp, 1), (861, .ifCond .eq 5, 3), (864, .iconst 0, 1), (865, .ireturn, 1), (866, .goto 826, 3), (869, .aload_n 1, 1), (870, .aload_n 0, 1), (871, .iload 5, 2), (873, .iconst 1, 1), (874, .iadd, 1)]
theorem zLd_425_ok : zLdk cL_law zLd_425 = true := by decide +kernel
theorem dL_law_801 : decode cL_law 801 = .ok (.aload_n 1, 1) := zLdk_at zLd_425_ok (k := 0) rfl
theorem dL_law_802 : decode cL_law 802 = .ok (.aload_n 0, 1) := zLdk_at zLd_425_ok (k := 1) rfl
theorem dL_law_803 : decode cL_law 803 = .ok (.iload 5, 2) := zLdk_at zLd_425_ok (k := 2) rfl
theorem dL_law_805 : decode cL_law 805 = .ok (.iconst 1, 1) := zLdk_at zLd_425_ok (k := 3) rfl
theorem dL_law_806 : decode cL_law 806 = .ok (.iadd, 1) := zLdk_at zLd_425_ok (k := 4) rfl
theorem dL_law_807 : decode cL_law 807 = .ok (.iaload, 1) := zLdk_at zLd_425_ok (k := 5) rfl
theorem dL_law_808 : decode cL_law 808 = .ok (.aload_n 0, 1) := zLdk_at zLd_425_ok (k := 6) rfl
theorem dL_law_809 : decode cL_law 809 = .ok (.iload 5, 2) := zLdk_at zLd_425_ok (k := 7) rfl
theorem dL_law_811 : decode cL_law 811 = .ok (.iconst 2, 1) := zLdk_at zLd_425_ok (k := 8) rfl
theorem dL_law_812 : decode cL_law 812 = .ok (.iadd, 1) := zLdk_at zLd_425_ok (k := 9) rfl
theorem dL_law_813 : decode cL_law 813 = .ok (.iaload, 1) := zLdk_at zLd_425_ok (k := 10) rfl
theorem dL_law_814 : decode cL_law 814 = .ok (.aload_n 3, 1) := zLdk_at zLd_425_ok (k := 11) rfl
theorem dL_law_815 : decode cL_law 815 = .ok (.invokestatic 146, 3) := zLdk_at zLd_425_ok (k := 12) rfl
theorem dL_law_818 : decode cL_law 818 = .ok (.istore 6, 2) := zLdk_at zLd_425_ok (k := 13) rfl
theorem dL_law_820 : decode cL_law 820 = .ok (.aload_n 2, 1) := zLdk_at zLd_425_ok (k := 14) rfl
theorem dL_law_821 : decode cL_law 821 = .ok (.aload_n 0, 1) := zLdk_at zLd_425_ok (k := 15) rfl
theorem dL_law_822 : decode cL_law 822 = .ok (.iload 5, 2) := zLdk_at zLd_425_ok (k := 16) rfl
theorem dL_law_824 : decode cL_law 824 = .ok (.iconst 1, 1) := zLdk_at zLd_425_ok (k := 17) rfl
theorem dL_law_825 : decode cL_law 825 = .ok (.iadd, 1) := zLdk_at zLd_425_ok (k := 18) rfl
theorem dL_law_826 : decode cL_law 826 = .ok (.iaload, 1) := zLdk_at zLd_425_ok (k := 19) rfl
theorem dL_law_827 : decode cL_law 827 = .ok (.aload_n 0, 1) := zLdk_at zLd_425_ok (k := 20) rfl
theorem dL_law_828 : decode cL_law 828 = .ok (.iload 5, 2) := zLdk_at zLd_425_ok (k := 21) rfl
theorem dL_law_830 : decode cL_law 830 = .ok (.iconst 2, 1) := zLdk_at zLd_425_ok (k := 22) rfl
theorem dL_law_831 : decode cL_law 831 = .ok (.iadd, 1) := zLdk_at zLd_425_ok (k := 23) rfl
theorem dL_law_832 : decode cL_law 832 = .ok (.iaload, 1) := zLdk_at zLd_425_ok (k := 24) rfl
theorem dL_law_833 : decode cL_law 833 = .ok (.invokevirtual 148, 3) := zLdk_at zLd_425_ok (k := 25) rfl
theorem dL_law_836 : decode cL_law 836 = .ok (.istore 7, 2) := zLdk_at zLd_425_ok (k := 26) rfl
theorem dL_law_838 : decode cL_law 838 = .ok (.aload_n 2, 1) := zLdk_at zLd_425_ok (k := 27) rfl
theorem dL_law_839 : decode cL_law 839 = .ok (.invokevirtual 111, 3) := zLdk_at zLd_425_ok (k := 28) rfl
theorem dL_law_842 : decode cL_law 842 = .ok (.iload 6, 2) := zLdk_at zLd_425_ok (k := 29) rfl
theorem dL_law_844 : decode cL_law 844 = .ok (.if_icmp .eq 5, 3) := zLdk_at zLd_425_ok (k := 30) rfl
theorem dL_law_847 : decode cL_law 847 = .ok (.iconst 0, 1) := zLdk_at zLd_425_ok (k := 31) rfl
theorem dL_law_848 : decode cL_law 848 = .ok (.ireturn, 1) := zLdk_at zLd_425_ok (k := 32) rfl
theorem dL_law_849 : decode cL_law 849 = .ok (.iload 6, 2) := zLdk_at zLd_425_ok (k := 33) rfl
theorem dL_law_851 : decode cL_law 851 = .ok (.ifCond .ne 15, 3) := zLdk_at zLd_425_ok (k := 34) rfl
theorem dL_law_854 : decode cL_law 854 = .ok (.aload_n 3, 1) := zLdk_at zLd_425_ok (k := 35) rfl
theorem dL_law_855 : decode cL_law 855 = .ok (.iconst 0, 1) := zLdk_at zLd_425_ok (k := 36) rfl
theorem dL_law_856 : decode cL_law 856 = .ok (.laload, 1) := zLdk_at zLd_425_ok (k := 37) rfl
theorem dL_law_857 : decode cL_law 857 = .ok (.iload 7, 2) := zLdk_at zLd_425_ok (k := 38) rfl
theorem dL_law_859 : decode cL_law 859 = .ok (.i2l, 1) := zLdk_at zLd_425_ok (k := 39) rfl
theorem dL_law_860 : decode cL_law 860 = .ok (.lcmp, 1) := zLdk_at zLd_425_ok (k := 40) rfl
theorem dL_law_861 : decode cL_law 861 = .ok (.ifCond .eq 5, 3) := zLdk_at zLd_425_ok (k := 41) rfl
theorem dL_law_864 : decode cL_law 864 = .ok (.iconst 0, 1) := zLdk_at zLd_425_ok (k := 42) rfl
theorem dL_law_865 : decode cL_law 865 = .ok (.ireturn, 1) := zLdk_at zLd_425_ok (k := 43) rfl
theorem dL_law_866 : decode cL_law 866 = .ok (.goto 826, 3) := zLdk_at zLd_425_ok (k := 44) rfl
theorem dL_law_869 : decode cL_law 869 = .ok (.aload_n 1, 1) := zLdk_at zLd_425_ok (k := 45) rfl
theorem dL_law_870 : decode cL_law 870 = .ok (.aload_n 0, 1) := zLdk_at zLd_425_ok (k := 46) rfl
theorem dL_law_871 : decode cL_law 871 = .ok (.iload 5, 2) := zLdk_at zLd_425_ok (k := 47) rfl
theorem dL_law_873 : decode cL_law 873 = .ok (.iconst 1, 1) := zLdk_at zLd_425_ok (k := 48) rfl
theorem dL_law_874 : decode cL_law 874 = .ok (.iadd, 1) := zLdk_at zLd_425_ok (k := 49) rfl
def zLd_475 : List (Nat × Instr × Nat) := [(875, .iaload, 1), (876, .aload_n 3, 1), (877, .invokestatic 149, 3), (880, .istore 6, 2), (882, .aload_n 2, 1), (883, .aload_n 0, 1), (884, .iload 5, 2), (886, .iconst 1, 1), (887, .iadd, 1), (888, .iaload, 1), (889, .invokevirtual 151, 3), (892, .istore 7, 2), (894, .aload_n 2, 1), (895, .invokevirtual 111, 3), (898, .iload 6, 2), (900, .if_icmp .eq 5, 3), (903, .iconst 0, 1), (904, .ireturn, 1), (905, .iload 6, 2), (907, .ifCond .ne 15, 3), (910, .aload_n 3, 1), (911, .iconst 0, 1), (912, .laload, 1), (913, .iload 7, 2), (915, .i2l, 1), (916, .lcmp, 1), (917, .ifCond .eq 5, 3), (920, .iconst 0, 1), (921, .ireturn, 1), (922, .goto 770, 3), (925, .aload_n 1, 1), (926, .invokevirtual 152, 3), (929, .aload_n 2, 1), (930, .invokevirtual 155, 3), (933, .if_icmp .eq 759, 3), (936, .iconst 0, 1), (937, .ireturn, 1), (938, .aload_n 1, 1), (939, .aload_n 0, 1), (940, .iload 5, 2), (942, .iconst 1, 1), (943, .iadd, 1), (944, .iaload, 1), (945, .aload_n 0, 1), (946, .iload 5, 2), (948, .iconst 2, 1), (949, .iadd, 1), (950, .iaload, 1), (951, .aload_n 3, 1), (952, .invokestatic 156, 3)]
theorem zLd_475_ok : zLdk cL_law zLd_475 = true := by decide +kernel
theorem dL_law_875 : decode cL_law 875 = .ok (.iaload, 1) := zLdk_at zLd_475_ok (k := 0) rfl
theorem dL_law_876 : decode cL_law 876 = .ok (.aload_n 3, 1) := zLdk_at zLd_475_ok (k := 1) rfl
theorem dL_law_877 : decode cL_law 877 = .ok (.invokestatic 149, 3) := zLdk_at zLd_475_ok (k := 2) rfl
theorem dL_law_880 : decode cL_law 880 = .ok (.istore 6, 2) := zLdk_at zLd_475_ok (k := 3) rfl
theorem dL_law_882 : decode cL_law 882 = .ok (.aload_n 2, 1) := zLdk_at zLd_475_ok (k := 4) rfl
theorem dL_law_883 : decode cL_law 883 = .ok (.aload_n 0, 1) := zLdk_at zLd_475_ok (k := 5) rfl
theorem dL_law_884 : decode cL_law 884 = .ok (.iload 5, 2) := zLdk_at zLd_475_ok (k := 6) rfl
theorem dL_law_886 : decode cL_law 886 = .ok (.iconst 1, 1) := zLdk_at zLd_475_ok (k := 7) rfl
theorem dL_law_887 : decode cL_law 887 = .ok (.iadd, 1) := zLdk_at zLd_475_ok (k := 8) rfl
theorem dL_law_888 : decode cL_law 888 = .ok (.iaload, 1) := zLdk_at zLd_475_ok (k := 9) rfl
theorem dL_law_889 : decode cL_law 889 = .ok (.invokevirtual 151, 3) := zLdk_at zLd_475_ok (k := 10) rfl
theorem dL_law_892 : decode cL_law 892 = .ok (.istore 7, 2) := zLdk_at zLd_475_ok (k := 11) rfl
theorem dL_law_894 : decode cL_law 894 = .ok (.aload_n 2, 1) := zLdk_at zLd_475_ok (k := 12) rfl
theorem dL_law_895 : decode cL_law 895 = .ok (.invokevirtual 111, 3) := zLdk_at zLd_475_ok (k := 13) rfl
theorem dL_law_898 : decode cL_law 898 = .ok (.iload 6, 2) := zLdk_at zLd_475_ok (k := 14) rfl
theorem dL_law_900 : decode cL_law 900 = .ok (.if_icmp .eq 5, 3) := zLdk_at zLd_475_ok (k := 15) rfl
theorem dL_law_903 : decode cL_law 903 = .ok (.iconst 0, 1) := zLdk_at zLd_475_ok (k := 16) rfl
theorem dL_law_904 : decode cL_law 904 = .ok (.ireturn, 1) := zLdk_at zLd_475_ok (k := 17) rfl
theorem dL_law_905 : decode cL_law 905 = .ok (.iload 6, 2) := zLdk_at zLd_475_ok (k := 18) rfl
theorem dL_law_907 : decode cL_law 907 = .ok (.ifCond .ne 15, 3) := zLdk_at zLd_475_ok (k := 19) rfl
theorem dL_law_910 : decode cL_law 910 = .ok (.aload_n 3, 1) := zLdk_at zLd_475_ok (k := 20) rfl
theorem dL_law_911 : decode cL_law 911 = .ok (.iconst 0, 1) := zLdk_at zLd_475_ok (k := 21) rfl
theorem dL_law_912 : decode cL_law 912 = .ok (.laload, 1) := zLdk_at zLd_475_ok (k := 22) rfl
theorem dL_law_913 : decode cL_law 913 = .ok (.iload 7, 2) := zLdk_at zLd_475_ok (k := 23) rfl
theorem dL_law_915 : decode cL_law 915 = .ok (.i2l, 1) := zLdk_at zLd_475_ok (k := 24) rfl
theorem dL_law_916 : decode cL_law 916 = .ok (.lcmp, 1) := zLdk_at zLd_475_ok (k := 25) rfl
theorem dL_law_917 : decode cL_law 917 = .ok (.ifCond .eq 5, 3) := zLdk_at zLd_475_ok (k := 26) rfl
theorem dL_law_920 : decode cL_law 920 = .ok (.iconst 0, 1) := zLdk_at zLd_475_ok (k := 27) rfl
theorem dL_law_921 : decode cL_law 921 = .ok (.ireturn, 1) := zLdk_at zLd_475_ok (k := 28) rfl
theorem dL_law_922 : decode cL_law 922 = .ok (.goto 770, 3) := zLdk_at zLd_475_ok (k := 29) rfl
theorem dL_law_925 : decode cL_law 925 = .ok (.aload_n 1, 1) := zLdk_at zLd_475_ok (k := 30) rfl
theorem dL_law_926 : decode cL_law 926 = .ok (.invokevirtual 152, 3) := zLdk_at zLd_475_ok (k := 31) rfl
theorem dL_law_929 : decode cL_law 929 = .ok (.aload_n 2, 1) := zLdk_at zLd_475_ok (k := 32) rfl
theorem dL_law_930 : decode cL_law 930 = .ok (.invokevirtual 155, 3) := zLdk_at zLd_475_ok (k := 33) rfl
theorem dL_law_933 : decode cL_law 933 = .ok (.if_icmp .eq 759, 3) := zLdk_at zLd_475_ok (k := 34) rfl
theorem dL_law_936 : decode cL_law 936 = .ok (.iconst 0, 1) := zLdk_at zLd_475_ok (k := 35) rfl
theorem dL_law_937 : decode cL_law 937 = .ok (.ireturn, 1) := zLdk_at zLd_475_ok (k := 36) rfl
theorem dL_law_938 : decode cL_law 938 = .ok (.aload_n 1, 1) := zLdk_at zLd_475_ok (k := 37) rfl
theorem dL_law_939 : decode cL_law 939 = .ok (.aload_n 0, 1) := zLdk_at zLd_475_ok (k := 38) rfl
theorem dL_law_940 : decode cL_law 940 = .ok (.iload 5, 2) := zLdk_at zLd_475_ok (k := 39) rfl
theorem dL_law_942 : decode cL_law 942 = .ok (.iconst 1, 1) := zLdk_at zLd_475_ok (k := 40) rfl
theorem dL_law_943 : decode cL_law 943 = .ok (.iadd, 1) := zLdk_at zLd_475_ok (k := 41) rfl
theorem dL_law_944 : decode cL_law 944 = .ok (.iaload, 1) := zLdk_at zLd_475_ok (k := 42) rfl
theorem dL_law_945 : decode cL_law 945 = .ok (.aload_n 0, 1) := zLdk_at zLd_475_ok (k := 43) rfl
theorem dL_law_946 : decode cL_law 946 = .ok (.iload 5, 2) := zLdk_at zLd_475_ok (k := 44) rfl
theorem dL_law_948 : decode cL_law 948 = .ok (.iconst 2, 1) := zLdk_at zLd_475_ok (k := 45) rfl
theorem dL_law_949 : decode cL_law 949 = .ok (.iadd, 1) := zLdk_at zLd_475_ok (k := 46) rfl
theorem dL_law_950 : decode cL_law 950 = .ok (.iaload, 1) := zLdk_at zLd_475_ok (k := 47) rfl
theorem dL_law_951 : decode cL_law 951 = .ok (.aload_n 3, 1) := zLdk_at zLd_475_ok (k := 48) rfl
theorem dL_law_952 : decode cL_law 952 = .ok (.invokestatic 156, 3) := zLdk_at zLd_475_ok (k := 49) rfl
def zLd_525 : List (Nat × Instr × Nat) := [(955, .istore 6, 2), (957, .aload_n 2, 1), (958, .aload_n 0, 1), (959, .iload 5, 2), (961, .iconst 1, 1), (962, .iadd, 1), (963, .iaload, 1), (964, .aload_n 0, 1), (965, .iload 5, 2), (967, .iconst 2, 1), (968, .iadd, 1), (969, .iaload, 1), (970, .invokevirtual 158, 3), (973, .istore 7, 2), (975, .aload_n 2, 1), (976, .invokevirtual 111, 3), (979, .iload 6, 2), (981, .if_icmp .eq 5, 3), (984, .iconst 0, 1), (985, .ireturn, 1), (986, .iload 6, 2), (988, .ifCond .ne 15, 3), (991, .aload_n 3, 1), (992, .iconst 0, 1), (993, .laload, 1), (994, .iload 7, 2), (996, .i2l, 1), (997, .lcmp, 1), (998, .ifCond .eq 5, 3), (1001, .iconst 0, 1), (1002, .ireturn, 1), (1003, .goto 689, 3), (1006, .aload_n 1, 1), (1007, .aload_n 3, 1), (1008, .invokestatic 159, 3), (1011, .istore 6, 2), (1013, .aload_n 2, 1), (1014, .invokevirtual 162, 3), (1017, .istore 7, 2), (1019, .aload_n 2, 1), (1020, .invokevirtual 111, 3), (1023, .iload 6, 2), (1025, .if_icmp .eq 5, 3), (1028, .iconst 0, 1), (1029, .ireturn, 1), (1030, .iload 6, 2), (1032, .ifCond .ne 15, 3), (1035, .aload_n 3, 1), (1036, .iconst 0, 1), (1037, .laload, 1)]
theorem zLd_525_ok : zLdk cL_law zLd_525 = true := by decide +kernel
theorem dL_law_955 : decode cL_law 955 = .ok (.istore 6, 2) := zLdk_at zLd_525_ok (k := 0) rfl
theorem dL_law_957 : decode cL_law 957 = .ok (.aload_n 2, 1) := zLdk_at zLd_525_ok (k := 1) rfl
theorem dL_law_958 : decode cL_law 958 = .ok (.aload_n 0, 1) := zLdk_at zLd_525_ok (k := 2) rfl
theorem dL_law_959 : decode cL_law 959 = .ok (.iload 5, 2) := zLdk_at zLd_525_ok (k := 3) rfl
theorem dL_law_961 : decode cL_law 961 = .ok (.iconst 1, 1) := zLdk_at zLd_525_ok (k := 4) rfl
theorem dL_law_962 : decode cL_law 962 = .ok (.iadd, 1) := zLdk_at zLd_525_ok (k := 5) rfl
theorem dL_law_963 : decode cL_law 963 = .ok (.iaload, 1) := zLdk_at zLd_525_ok (k := 6) rfl
theorem dL_law_964 : decode cL_law 964 = .ok (.aload_n 0, 1) := zLdk_at zLd_525_ok (k := 7) rfl
theorem dL_law_965 : decode cL_law 965 = .ok (.iload 5, 2) := zLdk_at zLd_525_ok (k := 8) rfl
theorem dL_law_967 : decode cL_law 967 = .ok (.iconst 2, 1) := zLdk_at zLd_525_ok (k := 9) rfl
theorem dL_law_968 : decode cL_law 968 = .ok (.iadd, 1) := zLdk_at zLd_525_ok (k := 10) rfl
theorem dL_law_969 : decode cL_law 969 = .ok (.iaload, 1) := zLdk_at zLd_525_ok (k := 11) rfl
theorem dL_law_970 : decode cL_law 970 = .ok (.invokevirtual 158, 3) := zLdk_at zLd_525_ok (k := 12) rfl
theorem dL_law_973 : decode cL_law 973 = .ok (.istore 7, 2) := zLdk_at zLd_525_ok (k := 13) rfl
theorem dL_law_975 : decode cL_law 975 = .ok (.aload_n 2, 1) := zLdk_at zLd_525_ok (k := 14) rfl
theorem dL_law_976 : decode cL_law 976 = .ok (.invokevirtual 111, 3) := zLdk_at zLd_525_ok (k := 15) rfl
theorem dL_law_979 : decode cL_law 979 = .ok (.iload 6, 2) := zLdk_at zLd_525_ok (k := 16) rfl
theorem dL_law_981 : decode cL_law 981 = .ok (.if_icmp .eq 5, 3) := zLdk_at zLd_525_ok (k := 17) rfl
theorem dL_law_984 : decode cL_law 984 = .ok (.iconst 0, 1) := zLdk_at zLd_525_ok (k := 18) rfl
theorem dL_law_985 : decode cL_law 985 = .ok (.ireturn, 1) := zLdk_at zLd_525_ok (k := 19) rfl
theorem dL_law_986 : decode cL_law 986 = .ok (.iload 6, 2) := zLdk_at zLd_525_ok (k := 20) rfl
theorem dL_law_988 : decode cL_law 988 = .ok (.ifCond .ne 15, 3) := zLdk_at zLd_525_ok (k := 21) rfl
theorem dL_law_991 : decode cL_law 991 = .ok (.aload_n 3, 1) := zLdk_at zLd_525_ok (k := 22) rfl
theorem dL_law_992 : decode cL_law 992 = .ok (.iconst 0, 1) := zLdk_at zLd_525_ok (k := 23) rfl
theorem dL_law_993 : decode cL_law 993 = .ok (.laload, 1) := zLdk_at zLd_525_ok (k := 24) rfl
theorem dL_law_994 : decode cL_law 994 = .ok (.iload 7, 2) := zLdk_at zLd_525_ok (k := 25) rfl
theorem dL_law_996 : decode cL_law 996 = .ok (.i2l, 1) := zLdk_at zLd_525_ok (k := 26) rfl
theorem dL_law_997 : decode cL_law 997 = .ok (.lcmp, 1) := zLdk_at zLd_525_ok (k := 27) rfl
theorem dL_law_998 : decode cL_law 998 = .ok (.ifCond .eq 5, 3) := zLdk_at zLd_525_ok (k := 28) rfl
theorem dL_law_1001 : decode cL_law 1001 = .ok (.iconst 0, 1) := zLdk_at zLd_525_ok (k := 29) rfl
theorem dL_law_1002 : decode cL_law 1002 = .ok (.ireturn, 1) := zLdk_at zLd_525_ok (k := 30) rfl
theorem dL_law_1003 : decode cL_law 1003 = .ok (.goto 689, 3) := zLdk_at zLd_525_ok (k := 31) rfl
theorem dL_law_1006 : decode cL_law 1006 = .ok (.aload_n 1, 1) := zLdk_at zLd_525_ok (k := 32) rfl
theorem dL_law_1007 : decode cL_law 1007 = .ok (.aload_n 3, 1) := zLdk_at zLd_525_ok (k := 33) rfl
theorem dL_law_1008 : decode cL_law 1008 = .ok (.invokestatic 159, 3) := zLdk_at zLd_525_ok (k := 34) rfl
theorem dL_law_1011 : decode cL_law 1011 = .ok (.istore 6, 2) := zLdk_at zLd_525_ok (k := 35) rfl
theorem dL_law_1013 : decode cL_law 1013 = .ok (.aload_n 2, 1) := zLdk_at zLd_525_ok (k := 36) rfl
theorem dL_law_1014 : decode cL_law 1014 = .ok (.invokevirtual 162, 3) := zLdk_at zLd_525_ok (k := 37) rfl
theorem dL_law_1017 : decode cL_law 1017 = .ok (.istore 7, 2) := zLdk_at zLd_525_ok (k := 38) rfl
theorem dL_law_1019 : decode cL_law 1019 = .ok (.aload_n 2, 1) := zLdk_at zLd_525_ok (k := 39) rfl
theorem dL_law_1020 : decode cL_law 1020 = .ok (.invokevirtual 111, 3) := zLdk_at zLd_525_ok (k := 40) rfl
theorem dL_law_1023 : decode cL_law 1023 = .ok (.iload 6, 2) := zLdk_at zLd_525_ok (k := 41) rfl
theorem dL_law_1025 : decode cL_law 1025 = .ok (.if_icmp .eq 5, 3) := zLdk_at zLd_525_ok (k := 42) rfl
theorem dL_law_1028 : decode cL_law 1028 = .ok (.iconst 0, 1) := zLdk_at zLd_525_ok (k := 43) rfl
theorem dL_law_1029 : decode cL_law 1029 = .ok (.ireturn, 1) := zLdk_at zLd_525_ok (k := 44) rfl
theorem dL_law_1030 : decode cL_law 1030 = .ok (.iload 6, 2) := zLdk_at zLd_525_ok (k := 45) rfl
theorem dL_law_1032 : decode cL_law 1032 = .ok (.ifCond .ne 15, 3) := zLdk_at zLd_525_ok (k := 46) rfl
theorem dL_law_1035 : decode cL_law 1035 = .ok (.aload_n 3, 1) := zLdk_at zLd_525_ok (k := 47) rfl
theorem dL_law_1036 : decode cL_law 1036 = .ok (.iconst 0, 1) := zLdk_at zLd_525_ok (k := 48) rfl
theorem dL_law_1037 : decode cL_law 1037 = .ok (.laload, 1) := zLdk_at zLd_525_ok (k := 49) rfl
def zLd_575 : List (Nat × Instr × Nat) := [(1038, .iload 7, 2), (1040, .i2l, 1), (1041, .lcmp, 1), (1042, .ifCond .eq 5, 3), (1045, .iconst 0, 1), (1046, .ireturn, 1), (1047, .goto 645, 3), (1050, .aload_n 1, 1), (1051, .aload 4, 2), (1053, .invokestatic 163, 3), (1056, .istore 6, 2), (1058, .aload_n 2, 1), (1059, .invokevirtual 166, 3), (1062, .dstore 7, 2), (1064, .aload_n 2, 1), (1065, .invokevirtual 111, 3), (1068, .iload 6, 2), (1070, .if_icmp .eq 5, 3), (1073, .iconst 0, 1), (1074, .ireturn, 1), (1075, .iload 6, 2), (1077, .ifCond .ne 35, 3), (1080, .aload 4, 2), (1082, .iconst 0, 1), (1083, .daload, 1), (1084, .dload 7, 2), (1086, .dcmp .l, 1), (1087, .ifCond .eq 25, 3), (1090, .aload 4, 2), (1092, .iconst 0, 1), (1093, .daload, 1), (1094, .aload 4, 2), (1096, .iconst 0, 1), (1097, .daload, 1), (1098, .dcmp .l, 1), (1099, .ifCond .eq 11, 3), (1102, .dload 7, 2), (1104, .dload 7, 2), (1106, .dcmp .l, 1), (1107, .ifCond .ne 5, 3), (1110, .iconst 0, 1), (1111, .ireturn, 1), (1112, .goto 580, 3), (1115, .aload_n 1, 1), (1116, .aload_n 0, 1), (1117, .iload 5, 2), (1119, .iconst 1, 1), (1120, .iadd, 1), (1121, .iaload, 1), (1122, .aload_n 3, 1)]
theorem zLd_575_ok : zLdk cL_law zLd_575 = true := by decide +kernel
theorem dL_law_1038 : decode cL_law 1038 = .ok (.iload 7, 2) := zLdk_at zLd_575_ok (k := 0) rfl
theorem dL_law_1040 : decode cL_law 1040 = .ok (.i2l, 1) := zLdk_at zLd_575_ok (k := 1) rfl
theorem dL_law_1041 : decode cL_law 1041 = .ok (.lcmp, 1) := zLdk_at zLd_575_ok (k := 2) rfl
theorem dL_law_1042 : decode cL_law 1042 = .ok (.ifCond .eq 5, 3) := zLdk_at zLd_575_ok (k := 3) rfl
theorem dL_law_1045 : decode cL_law 1045 = .ok (.iconst 0, 1) := zLdk_at zLd_575_ok (k := 4) rfl
theorem dL_law_1046 : decode cL_law 1046 = .ok (.ireturn, 1) := zLdk_at zLd_575_ok (k := 5) rfl
theorem dL_law_1047 : decode cL_law 1047 = .ok (.goto 645, 3) := zLdk_at zLd_575_ok (k := 6) rfl
theorem dL_law_1050 : decode cL_law 1050 = .ok (.aload_n 1, 1) := zLdk_at zLd_575_ok (k := 7) rfl
theorem dL_law_1051 : decode cL_law 1051 = .ok (.aload 4, 2) := zLdk_at zLd_575_ok (k := 8) rfl
theorem dL_law_1053 : decode cL_law 1053 = .ok (.invokestatic 163, 3) := zLdk_at zLd_575_ok (k := 9) rfl
theorem dL_law_1056 : decode cL_law 1056 = .ok (.istore 6, 2) := zLdk_at zLd_575_ok (k := 10) rfl
theorem dL_law_1058 : decode cL_law 1058 = .ok (.aload_n 2, 1) := zLdk_at zLd_575_ok (k := 11) rfl
theorem dL_law_1059 : decode cL_law 1059 = .ok (.invokevirtual 166, 3) := zLdk_at zLd_575_ok (k := 12) rfl
theorem dL_law_1062 : decode cL_law 1062 = .ok (.dstore 7, 2) := zLdk_at zLd_575_ok (k := 13) rfl
theorem dL_law_1064 : decode cL_law 1064 = .ok (.aload_n 2, 1) := zLdk_at zLd_575_ok (k := 14) rfl
theorem dL_law_1065 : decode cL_law 1065 = .ok (.invokevirtual 111, 3) := zLdk_at zLd_575_ok (k := 15) rfl
theorem dL_law_1068 : decode cL_law 1068 = .ok (.iload 6, 2) := zLdk_at zLd_575_ok (k := 16) rfl
theorem dL_law_1070 : decode cL_law 1070 = .ok (.if_icmp .eq 5, 3) := zLdk_at zLd_575_ok (k := 17) rfl
theorem dL_law_1073 : decode cL_law 1073 = .ok (.iconst 0, 1) := zLdk_at zLd_575_ok (k := 18) rfl
theorem dL_law_1074 : decode cL_law 1074 = .ok (.ireturn, 1) := zLdk_at zLd_575_ok (k := 19) rfl
theorem dL_law_1075 : decode cL_law 1075 = .ok (.iload 6, 2) := zLdk_at zLd_575_ok (k := 20) rfl
theorem dL_law_1077 : decode cL_law 1077 = .ok (.ifCond .ne 35, 3) := zLdk_at zLd_575_ok (k := 21) rfl
theorem dL_law_1080 : decode cL_law 1080 = .ok (.aload 4, 2) := zLdk_at zLd_575_ok (k := 22) rfl
theorem dL_law_1082 : decode cL_law 1082 = .ok (.iconst 0, 1) := zLdk_at zLd_575_ok (k := 23) rfl
theorem dL_law_1083 : decode cL_law 1083 = .ok (.daload, 1) := zLdk_at zLd_575_ok (k := 24) rfl
theorem dL_law_1084 : decode cL_law 1084 = .ok (.dload 7, 2) := zLdk_at zLd_575_ok (k := 25) rfl
theorem dL_law_1086 : decode cL_law 1086 = .ok (.dcmp .l, 1) := zLdk_at zLd_575_ok (k := 26) rfl
theorem dL_law_1087 : decode cL_law 1087 = .ok (.ifCond .eq 25, 3) := zLdk_at zLd_575_ok (k := 27) rfl
theorem dL_law_1090 : decode cL_law 1090 = .ok (.aload 4, 2) := zLdk_at zLd_575_ok (k := 28) rfl
theorem dL_law_1092 : decode cL_law 1092 = .ok (.iconst 0, 1) := zLdk_at zLd_575_ok (k := 29) rfl
theorem dL_law_1093 : decode cL_law 1093 = .ok (.daload, 1) := zLdk_at zLd_575_ok (k := 30) rfl
theorem dL_law_1094 : decode cL_law 1094 = .ok (.aload 4, 2) := zLdk_at zLd_575_ok (k := 31) rfl
theorem dL_law_1096 : decode cL_law 1096 = .ok (.iconst 0, 1) := zLdk_at zLd_575_ok (k := 32) rfl
theorem dL_law_1097 : decode cL_law 1097 = .ok (.daload, 1) := zLdk_at zLd_575_ok (k := 33) rfl
theorem dL_law_1098 : decode cL_law 1098 = .ok (.dcmp .l, 1) := zLdk_at zLd_575_ok (k := 34) rfl
theorem dL_law_1099 : decode cL_law 1099 = .ok (.ifCond .eq 11, 3) := zLdk_at zLd_575_ok (k := 35) rfl
theorem dL_law_1102 : decode cL_law 1102 = .ok (.dload 7, 2) := zLdk_at zLd_575_ok (k := 36) rfl
theorem dL_law_1104 : decode cL_law 1104 = .ok (.dload 7, 2) := zLdk_at zLd_575_ok (k := 37) rfl
theorem dL_law_1106 : decode cL_law 1106 = .ok (.dcmp .l, 1) := zLdk_at zLd_575_ok (k := 38) rfl
theorem dL_law_1107 : decode cL_law 1107 = .ok (.ifCond .ne 5, 3) := zLdk_at zLd_575_ok (k := 39) rfl
theorem dL_law_1110 : decode cL_law 1110 = .ok (.iconst 0, 1) := zLdk_at zLd_575_ok (k := 40) rfl
theorem dL_law_1111 : decode cL_law 1111 = .ok (.ireturn, 1) := zLdk_at zLd_575_ok (k := 41) rfl
theorem dL_law_1112 : decode cL_law 1112 = .ok (.goto 580, 3) := zLdk_at zLd_575_ok (k := 42) rfl
theorem dL_law_1115 : decode cL_law 1115 = .ok (.aload_n 1, 1) := zLdk_at zLd_575_ok (k := 43) rfl
theorem dL_law_1116 : decode cL_law 1116 = .ok (.aload_n 0, 1) := zLdk_at zLd_575_ok (k := 44) rfl
theorem dL_law_1117 : decode cL_law 1117 = .ok (.iload 5, 2) := zLdk_at zLd_575_ok (k := 45) rfl
theorem dL_law_1119 : decode cL_law 1119 = .ok (.iconst 1, 1) := zLdk_at zLd_575_ok (k := 46) rfl
theorem dL_law_1120 : decode cL_law 1120 = .ok (.iadd, 1) := zLdk_at zLd_575_ok (k := 47) rfl
theorem dL_law_1121 : decode cL_law 1121 = .ok (.iaload, 1) := zLdk_at zLd_575_ok (k := 48) rfl
theorem dL_law_1122 : decode cL_law 1122 = .ok (.aload_n 3, 1) := zLdk_at zLd_575_ok (k := 49) rfl
def zLd_625 : List (Nat × Instr × Nat) := [(1123, .invokestatic 167, 3), (1126, .istore 6, 2), (1128, .aload_n 2, 1), (1129, .aload_n 0, 1), (1130, .iload 5, 2), (1132, .iconst 1, 1), (1133, .iadd, 1), (1134, .iaload, 1), (1135, .invokevirtual 169, 3), (1138, .istore 7, 2), (1140, .aload_n 2, 1), (1141, .invokevirtual 111, 3), (1144, .iload 6, 2), (1146, .if_icmp .eq 5, 3), (1149, .iconst 0, 1), (1150, .ireturn, 1), (1151, .iload 6, 2), (1153, .ifCond .ne 15, 3), (1156, .aload_n 3, 1), (1157, .iconst 0, 1), (1158, .laload, 1), (1159, .iload 7, 2), (1161, .i2l, 1), (1162, .lcmp, 1), (1163, .ifCond .eq 5, 3)]
theorem zLd_625_ok : zLdk cL_law zLd_625 = true := by decide +kernel
theorem dL_law_1123 : decode cL_law 1123 = .ok (.invokestatic 167, 3) := zLdk_at zLd_625_ok (k := 0) rfl
theorem dL_law_1126 : decode cL_law 1126 = .ok (.istore 6, 2) := zLdk_at zLd_625_ok (k := 1) rfl
theorem dL_law_1128 : decode cL_law 1128 = .ok (.aload_n 2, 1) := zLdk_at zLd_625_ok (k := 2) rfl
theorem dL_law_1129 : decode cL_law 1129 = .ok (.aload_n 0, 1) := zLdk_at zLd_625_ok (k := 3) rfl
theorem dL_law_1130 : decode cL_law 1130 = .ok (.iload 5, 2) := zLdk_at zLd_625_ok (k := 4) rfl
theorem dL_law_1132 : decode cL_law 1132 = .ok (.iconst 1, 1) := zLdk_at zLd_625_ok (k := 5) rfl
theorem dL_law_1133 : decode cL_law 1133 = .ok (.iadd, 1) := zLdk_at zLd_625_ok (k := 6) rfl
theorem dL_law_1134 : decode cL_law 1134 = .ok (.iaload, 1) := zLdk_at zLd_625_ok (k := 7) rfl
theorem dL_law_1135 : decode cL_law 1135 = .ok (.invokevirtual 169, 3) := zLdk_at zLd_625_ok (k := 8) rfl
theorem dL_law_1138 : decode cL_law 1138 = .ok (.istore 7, 2) := zLdk_at zLd_625_ok (k := 9) rfl
theorem dL_law_1140 : decode cL_law 1140 = .ok (.aload_n 2, 1) := zLdk_at zLd_625_ok (k := 10) rfl
theorem dL_law_1141 : decode cL_law 1141 = .ok (.invokevirtual 111, 3) := zLdk_at zLd_625_ok (k := 11) rfl
theorem dL_law_1144 : decode cL_law 1144 = .ok (.iload 6, 2) := zLdk_at zLd_625_ok (k := 12) rfl
theorem dL_law_1146 : decode cL_law 1146 = .ok (.if_icmp .eq 5, 3) := zLdk_at zLd_625_ok (k := 13) rfl
theorem dL_law_1149 : decode cL_law 1149 = .ok (.iconst 0, 1) := zLdk_at zLd_625_ok (k := 14) rfl
theorem dL_law_1150 : decode cL_law 1150 = .ok (.ireturn, 1) := zLdk_at zLd_625_ok (k := 15) rfl
theorem dL_law_1151 : decode cL_law 1151 = .ok (.iload 6, 2) := zLdk_at zLd_625_ok (k := 16) rfl
theorem dL_law_1153 : decode cL_law 1153 = .ok (.ifCond .ne 15, 3) := zLdk_at zLd_625_ok (k := 17) rfl
theorem dL_law_1156 : decode cL_law 1156 = .ok (.aload_n 3, 1) := zLdk_at zLd_625_ok (k := 18) rfl
theorem dL_law_1157 : decode cL_law 1157 = .ok (.iconst 0, 1) := zLdk_at zLd_625_ok (k := 19) rfl
theorem dL_law_1158 : decode cL_law 1158 = .ok (.laload, 1) := zLdk_at zLd_625_ok (k := 20) rfl
theorem dL_law_1159 : decode cL_law 1159 = .ok (.iload 7, 2) := zLdk_at zLd_625_ok (k := 21) rfl
theorem dL_law_1161 : decode cL_law 1161 = .ok (.i2l, 1) := zLdk_at zLd_625_ok (k := 22) rfl
theorem dL_law_1162 : decode cL_law 1162 = .ok (.lcmp, 1) := zLdk_at zLd_625_ok (k := 23) rfl
theorem dL_law_1163 : decode cL_law 1163 = .ok (.ifCond .eq 5, 3) := zLdk_at zLd_625_ok (k := 24) rfl
