def rL_law_689 : List (Nat × Instr × Nat) := [(689, .iload_n 3, 1), (690, .iconst 4, 1), (691, .iadd, 1), (692, .iaload, 1), (693, .invokevirtual 75, 3), (696, .pop2, 1), (697, .goto 552, 3), (700, .aload_n 1, 1), (701, .aload_n 0, 1), (702, .iload_n 3, 1), (703, .iconst 1, 1), (704, .iadd, 1), (705, .iaload, 1), (706, .invokevirtual 76, 3), (709, .pop, 1), (710, .aload_n 2, 1), (711, .aload_n 0, 1), (712, .iload_n 3, 1), (713, .iconst 1, 1), (714, .iadd, 1), (715, .iaload, 1), (716, .invokevirtual 79, 3), (719, .pop, 1), (720, .goto 529, 3), (723, .aload_n 1, 1), (724, .aload_n 0, 1), (725, .iload_n 3, 1), (726, .iconst 1, 1), (727, .iadd, 1), (728, .iaload, 1), (729, .aload_n 0, 1), (730, .iload_n 3, 1), (731, .iconst 2, 1), (732, .iadd, 1), (733, .iaload, 1), (734, .invokevirtual 80, 3), (737, .aload_n 2, 1), (738, .aload_n 0, 1), (739, .iload_n 3, 1), (740, .iconst 1, 1), (741, .iadd, 1), (742, .iaload, 1), (743, .aload_n 0, 1), (744, .iload_n 3, 1), (745, .iconst 2, 1), (746, .iadd, 1), (747, .iaload, 1), (748, .invokevirtual 84, 3), (751, .lcmp, 1), (752, .ifCond .eq 497, 3), (755, .iconst 0, 1), (756, .ireturn, 1), (757, .aload_n 1, 1), (758, .aload_n 0, 1), (759, .iload_n 3, 1), (760, .iconst 1, 1), (761, .iadd, 1), (762, .iaload, 1), (763, .aload_n 0, 1), (764, .iload_n 3, 1), (765, .iconst 2, 1), (766, .iadd, 1), (767, .iaload, 1), (768, .aload_n 0, 1)]
theorem rL_law_689_ok : xRw cL_law rL_law_689 = true := by decide +kernel
theorem dL_law_689 : decode cL_law 689 = .ok (.iload_n 3, 1) := xRw_t rL_law_689_ok (k := 0) rfl
theorem dL_law_690 : decode cL_law 690 = .ok (.iconst 4, 1) := xRw_t rL_law_689_ok (k := 1) rfl
theorem dL_law_691 : decode cL_law 691 = .ok (.iadd, 1) := xRw_t rL_law_689_ok (k := 2) rfl
theorem dL_law_692 : decode cL_law 692 = .ok (.iaload, 1) := xRw_t rL_law_689_ok (k := 3) rfl
theorem dL_law_693 : decode cL_law 693 = .ok (.invokevirtual 75, 3) := xRw_t rL_law_689_ok (k := 4) rfl
theorem dL_law_696 : decode cL_law 696 = .ok (.pop2, 1) := xRw_t rL_law_689_ok (k := 5) rfl
theorem dL_law_697 : decode cL_law 697 = .ok (.goto 552, 3) := xRw_t rL_law_689_ok (k := 6) rfl
theorem dL_law_700 : decode cL_law 700 = .ok (.aload_n 1, 1) := xRw_t rL_law_689_ok (k := 7) rfl
theorem dL_law_701 : decode cL_law 701 = .ok (.aload_n 0, 1) := xRw_t rL_law_689_ok (k := 8) rfl
theorem dL_law_702 : decode cL_law 702 = .ok (.iload_n 3, 1) := xRw_t rL_law_689_ok (k := 9) rfl
theorem dL_law_703 : decode cL_law 703 = .ok (.iconst 1, 1) := xRw_t rL_law_689_ok (k := 10) rfl
theorem dL_law_704 : decode cL_law 704 = .ok (.iadd, 1) := xRw_t rL_law_689_ok (k := 11) rfl
theorem dL_law_705 : decode cL_law 705 = .ok (.iaload, 1) := xRw_t rL_law_689_ok (k := 12) rfl
theorem dL_law_706 : decode cL_law 706 = .ok (.invokevirtual 76, 3) := xRw_t rL_law_689_ok (k := 13) rfl
theorem dL_law_709 : decode cL_law 709 = .ok (.pop, 1) := xRw_t rL_law_689_ok (k := 14) rfl
theorem dL_law_710 : decode cL_law 710 = .ok (.aload_n 2, 1) := xRw_t rL_law_689_ok (k := 15) rfl
theorem dL_law_711 : decode cL_law 711 = .ok (.aload_n 0, 1) := xRw_t rL_law_689_ok (k := 16) rfl
theorem dL_law_712 : decode cL_law 712 = .ok (.iload_n 3, 1) := xRw_t rL_law_689_ok (k := 17) rfl
theorem dL_law_713 : decode cL_law 713 = .ok (.iconst 1, 1) := xRw_t rL_law_689_ok (k := 18) rfl
theorem dL_law_714 : decode cL_law 714 = .ok (.iadd, 1) := xRw_t rL_law_689_ok (k := 19) rfl
theorem dL_law_715 : decode cL_law 715 = .ok (.iaload, 1) := xRw_t rL_law_689_ok (k := 20) rfl
theorem dL_law_716 : decode cL_law 716 = .ok (.invokevirtual 79, 3) := xRw_t rL_law_689_ok (k := 21) rfl
theorem dL_law_719 : decode cL_law 719 = .ok (.pop, 1) := xRw_t rL_law_689_ok (k := 22) rfl
theorem dL_law_720 : decode cL_law 720 = .ok (.goto 529, 3) := xRw_t rL_law_689_ok (k := 23) rfl
theorem dL_law_723 : decode cL_law 723 = .ok (.aload_n 1, 1) := xRw_t rL_law_689_ok (k := 24) rfl
theorem dL_law_724 : decode cL_law 724 = .ok (.aload_n 0, 1) := xRw_t rL_law_689_ok (k := 25) rfl
theorem dL_law_725 : decode cL_law 725 = .ok (.iload_n 3, 1) := xRw_t rL_law_689_ok (k := 26) rfl
theorem dL_law_726 : decode cL_law 726 = .ok (.iconst 1, 1) := xRw_t rL_law_689_ok (k := 27) rfl
theorem dL_law_727 : decode cL_law 727 = .ok (.iadd, 1) := xRw_t rL_law_689_ok (k := 28) rfl
theorem dL_law_728 : decode cL_law 728 = .ok (.iaload, 1) := xRw_t rL_law_689_ok (k := 29) rfl
theorem dL_law_729 : decode cL_law 729 = .ok (.aload_n 0, 1) := xRw_t rL_law_689_ok (k := 30) rfl
theorem dL_law_730 : decode cL_law 730 = .ok (.iload_n 3, 1) := xRw_t rL_law_689_ok (k := 31) rfl
theorem dL_law_731 : decode cL_law 731 = .ok (.iconst 2, 1) := xRw_t rL_law_689_ok (k := 32) rfl
theorem dL_law_732 : decode cL_law 732 = .ok (.iadd, 1) := xRw_t rL_law_689_ok (k := 33) rfl
theorem dL_law_733 : decode cL_law 733 = .ok (.iaload, 1) := xRw_t rL_law_689_ok (k := 34) rfl
theorem dL_law_734 : decode cL_law 734 = .ok (.invokevirtual 80, 3) := xRw_t rL_law_689_ok (k := 35) rfl
theorem dL_law_737 : decode cL_law 737 = .ok (.aload_n 2, 1) := xRw_t rL_law_689_ok (k := 36) rfl
theorem dL_law_738 : decode cL_law 738 = .ok (.aload_n 0, 1) := xRw_t rL_law_689_ok (k := 37) rfl
theorem dL_law_739 : decode cL_law 739 = .ok (.iload_n 3, 1) := xRw_t rL_law_689_ok (k := 38) rfl
theorem dL_law_740 : decode cL_law 740 = .ok (.iconst 1, 1) := xRw_t rL_law_689_ok (k := 39) rfl
theorem dL_law_741 : decode cL_law 741 = .ok (.iadd, 1) := xRw_t rL_law_689_ok (k := 40) rfl
theorem dL_law_742 : decode cL_law 742 = .ok (.iaload, 1) := xRw_t rL_law_689_ok (k := 41) rfl
theorem dL_law_743 : decode cL_law 743 = .ok (.aload_n 0, 1) := xRw_t rL_law_689_ok (k := 42) rfl
theorem dL_law_744 : decode cL_law 744 = .ok (.iload_n 3, 1) := xRw_t rL_law_689_ok (k := 43) rfl
theorem dL_law_745 : decode cL_law 745 = .ok (.iconst 2, 1) := xRw_t rL_law_689_ok (k := 44) rfl
theorem dL_law_746 : decode cL_law 746 = .ok (.iadd, 1) := xRw_t rL_law_689_ok (k := 45) rfl
theorem dL_law_747 : decode cL_law 747 = .ok (.iaload, 1) := xRw_t rL_law_689_ok (k := 46) rfl
theorem dL_law_748 : decode cL_law 748 = .ok (.invokevirtual 84, 3) := xRw_t rL_law_689_ok (k := 47) rfl
theorem dL_law_751 : decode cL_law 751 = .ok (.lcmp, 1) := xRw_t rL_law_689_ok (k := 48) rfl
theorem dL_law_752 : decode cL_law 752 = .ok (.ifCond .eq 497, 3) := xRw_t rL_law_689_ok (k := 49) rfl
theorem dL_law_755 : decode cL_law 755 = .ok (.iconst 0, 1) := xRw_t rL_law_689_ok (k := 50) rfl
theorem dL_law_756 : decode cL_law 756 = .ok (.ireturn, 1) := xRw_t rL_law_689_ok (k := 51) rfl
theorem dL_law_757 : decode cL_law 757 = .ok (.aload_n 1, 1) := xRw_t rL_law_689_ok (k := 52) rfl
theorem dL_law_758 : decode cL_law 758 = .ok (.aload_n 0, 1) := xRw_t rL_law_689_ok (k := 53) rfl
theorem dL_law_759 : decode cL_law 759 = .ok (.iload_n 3, 1) := xRw_t rL_law_689_ok (k := 54) rfl
theorem dL_law_760 : decode cL_law 760 = .ok (.iconst 1, 1) := xRw_t rL_law_689_ok (k := 55) rfl
theorem dL_law_761 : decode cL_law 761 = .ok (.iadd, 1) := xRw_t rL_law_689_ok (k := 56) rfl
theorem dL_law_762 : decode cL_law 762 = .ok (.iaload, 1) := xRw_t rL_law_689_ok (k := 57) rfl
theorem dL_law_763 : decode cL_law 763 = .ok (.aload_n 0, 1) := xRw_t rL_law_689_ok (k := 58) rfl
theorem dL_law_764 : decode cL_law 764 = .ok (.iload_n 3, 1) := xRw_t rL_law_689_ok (k := 59) rfl
theorem dL_law_765 : decode cL_law 765 = .ok (.iconst 2, 1) := xRw_t rL_law_689_ok (k := 60) rfl
theorem dL_law_766 : decode cL_law 766 = .ok (.iadd, 1) := xRw_t rL_law_689_ok (k := 61) rfl
theorem dL_law_767 : decode cL_law 767 = .ok (.iaload, 1) := xRw_t rL_law_689_ok (k := 62) rfl
theorem dL_law_768 : decode cL_law 768 = .ok (.aload_n 0, 1) := xRw_t rL_law_689_ok (k := 63) rfl
def rL_law_769 : List (Nat × Instr × Nat) := [(769, .iload_n 3, 1), (770, .iconst 3, 1), (771, .iadd, 1), (772, .iaload, 1), (773, .invokevirtual 85, 3), (776, .pop2, 1), (777, .aload_n 2, 1), (778, .aload_n 0, 1), (779, .iload_n 3, 1), (780, .iconst 1, 1), (781, .iadd, 1), (782, .iaload, 1), (783, .aload_n 0, 1), (784, .iload_n 3, 1), (785, .iconst 2, 1), (786, .iadd, 1), (787, .iaload, 1), (788, .aload_n 0, 1), (789, .iload_n 3, 1), (790, .iconst 3, 1), (791, .iadd, 1), (792, .iaload, 1), (793, .invokevirtual 89, 3), (796, .pop2, 1), (797, .goto 452, 3), (800, .aload_n 1, 1), (801, .aload_n 0, 1), (802, .iload_n 3, 1), (803, .iconst 1, 1), (804, .iadd, 1), (805, .iaload, 1), (806, .aload_n 0, 1), (807, .iload_n 3, 1), (808, .iconst 2, 1), (809, .iadd, 1), (810, .iaload, 1), (811, .invokevirtual 90, 3), (814, .pop, 1), (815, .aload_n 2, 1), (816, .aload_n 0, 1), (817, .iload_n 3, 1), (818, .iconst 1, 1), (819, .iadd, 1), (820, .iaload, 1), (821, .aload_n 0, 1), (822, .iload_n 3, 1), (823, .iconst 2, 1), (824, .iadd, 1), (825, .iaload, 1), (826, .invokevirtual 93, 3), (829, .pop, 1), (830, .goto 419, 3), (833, .aload_n 1, 1), (834, .aload_n 0, 1), (835, .iload_n 3, 1), (836, .iconst 1, 1), (837, .iadd, 1), (838, .iaload, 1), (839, .aload_n 0, 1), (840, .iload_n 3, 1), (841, .iconst 2, 1), (842, .iadd, 1), (843, .iaload, 1), (844, .aload_n 0, 1)]
theorem rL_law_769_ok : xRw cL_law rL_law_769 = true := by decide +kernel
theorem dL_law_769 : decode cL_law 769 = .ok (.iload_n 3, 1) := xRw_t rL_law_769_ok (k := 0) rfl
theorem dL_law_770 : decode cL_law 770 = .ok (.iconst 3, 1) := xRw_t rL_law_769_ok (k := 1) rfl
theorem dL_law_771 : decode cL_law 771 = .ok (.iadd, 1) := xRw_t rL_law_769_ok (k := 2) rfl
theorem dL_law_772 : decode cL_law 772 = .ok (.iaload, 1) := xRw_t rL_law_769_ok (k := 3) rfl
theorem dL_law_773 : decode cL_law 773 = .ok (.invokevirtual 85, 3) := xRw_t rL_law_769_ok (k := 4) rfl
theorem dL_law_776 : decode cL_law 776 = .ok (.pop2, 1) := xRw_t rL_law_769_ok (k := 5) rfl
theorem dL_law_777 : decode cL_law 777 = .ok (.aload_n 2, 1) := xRw_t rL_law_769_ok (k := 6) rfl
theorem dL_law_778 : decode cL_law 778 = .ok (.aload_n 0, 1) := xRw_t rL_law_769_ok (k := 7) rfl
theorem dL_law_779 : decode cL_law 779 = .ok (.iload_n 3, 1) := xRw_t rL_law_769_ok (k := 8) rfl
theorem dL_law_780 : decode cL_law 780 = .ok (.iconst 1, 1) := xRw_t rL_law_769_ok (k := 9) rfl
theorem dL_law_781 : decode cL_law 781 = .ok (.iadd, 1) := xRw_t rL_law_769_ok (k := 10) rfl
theorem dL_law_782 : decode cL_law 782 = .ok (.iaload, 1) := xRw_t rL_law_769_ok (k := 11) rfl
theorem dL_law_783 : decode cL_law 783 = .ok (.aload_n 0, 1) := xRw_t rL_law_769_ok (k := 12) rfl
theorem dL_law_784 : decode cL_law 784 = .ok (.iload_n 3, 1) := xRw_t rL_law_769_ok (k := 13) rfl
theorem dL_law_785 : decode cL_law 785 = .ok (.iconst 2, 1) := xRw_t rL_law_769_ok (k := 14) rfl
theorem dL_law_786 : decode cL_law 786 = .ok (.iadd, 1) := xRw_t rL_law_769_ok (k := 15) rfl
theorem dL_law_787 : decode cL_law 787 = .ok (.iaload, 1) := xRw_t rL_law_769_ok (k := 16) rfl
theorem dL_law_788 : decode cL_law 788 = .ok (.aload_n 0, 1) := xRw_t rL_law_769_ok (k := 17) rfl
theorem dL_law_789 : decode cL_law 789 = .ok (.iload_n 3, 1) := xRw_t rL_law_769_ok (k := 18) rfl
theorem dL_law_790 : decode cL_law 790 = .ok (.iconst 3, 1) := xRw_t rL_law_769_ok (k := 19) rfl
theorem dL_law_791 : decode cL_law 791 = .ok (.iadd, 1) := xRw_t rL_law_769_ok (k := 20) rfl
theorem dL_law_792 : decode cL_law 792 = .ok (.iaload, 1) := xRw_t rL_law_769_ok (k := 21) rfl
theorem dL_law_793 : decode cL_law 793 = .ok (.invokevirtual 89, 3) := xRw_t rL_law_769_ok (k := 22) rfl
theorem dL_law_796 : decode cL_law 796 = .ok (.pop2, 1) := xRw_t rL_law_769_ok (k := 23) rfl
theorem dL_law_797 : decode cL_law 797 = .ok (.goto 452, 3) := xRw_t rL_law_769_ok (k := 24) rfl
theorem dL_law_800 : decode cL_law 800 = .ok (.aload_n 1, 1) := xRw_t rL_law_769_ok (k := 25) rfl
theorem dL_law_801 : decode cL_law 801 = .ok (.aload_n 0, 1) := xRw_t rL_law_769_ok (k := 26) rfl
theorem dL_law_802 : decode cL_law 802 = .ok (.iload_n 3, 1) := xRw_t rL_law_769_ok (k := 27) rfl
theorem dL_law_803 : decode cL_law 803 = .ok (.iconst 1, 1) := xRw_t rL_law_769_ok (k := 28) rfl
theorem dL_law_804 : decode cL_law 804 = .ok (.iadd, 1) := xRw_t rL_law_769_ok (k := 29) rfl
theorem dL_law_805 : decode cL_law 805 = .ok (.iaload, 1) := xRw_t rL_law_769_ok (k := 30) rfl
theorem dL_law_806 : decode cL_law 806 = .ok (.aload_n 0, 1) := xRw_t rL_law_769_ok (k := 31) rfl
theorem dL_law_807 : decode cL_law 807 = .ok (.iload_n 3, 1) := xRw_t rL_law_769_ok (k := 32) rfl
theorem dL_law_808 : decode cL_law 808 = .ok (.iconst 2, 1) := xRw_t rL_law_769_ok (k := 33) rfl
theorem dL_law_809 : decode cL_law 809 = .ok (.iadd, 1) := xRw_t rL_law_769_ok (k := 34) rfl
theorem dL_law_810 : decode cL_law 810 = .ok (.iaload, 1) := xRw_t rL_law_769_ok (k := 35) rfl
theorem dL_law_811 : decode cL_law 811 = .ok (.invokevirtual 90, 3) := xRw_t rL_law_769_ok (k := 36) rfl
theorem dL_law_814 : decode cL_law 814 = .ok (.pop, 1) := xRw_t rL_law_769_ok (k := 37) rfl
theorem dL_law_815 : decode cL_law 815 = .ok (.aload_n 2, 1) := xRw_t rL_law_769_ok (k := 38) rfl
theorem dL_law_816 : decode cL_law 816 = .ok (.aload_n 0, 1) := xRw_t rL_law_769_ok (k := 39) rfl
theorem dL_law_817 : decode cL_law 817 = .ok (.iload_n 3, 1) := xRw_t rL_law_769_ok (k := 40) rfl
theorem dL_law_818 : decode cL_law 818 = .ok (.iconst 1, 1) := xRw_t rL_law_769_ok (k := 41) rfl
theorem dL_law_819 : decode cL_law 819 = .ok (.iadd, 1) := xRw_t rL_law_769_ok (k := 42) rfl
theorem dL_law_820 : decode cL_law 820 = .ok (.iaload, 1) := xRw_t rL_law_769_ok (k := 43) rfl
theorem dL_law_821 : decode cL_law 821 = .ok (.aload_n 0, 1) := xRw_t rL_law_769_ok (k := 44) rfl
theorem dL_law_822 : decode cL_law 822 = .ok (.iload_n 3, 1) := xRw_t rL_law_769_ok (k := 45) rfl
theorem dL_law_823 : decode cL_law 823 = .ok (.iconst 2, 1) := xRw_t rL_law_769_ok (k := 46) rfl
theorem dL_law_824 : decode cL_law 824 = .ok (.iadd, 1) := xRw_t rL_law_769_ok (k := 47) rfl
theorem dL_law_825 : decode cL_law 825 = .ok (.iaload, 1) := xRw_t rL_law_769_ok (k := 48) rfl
theorem dL_law_826 : decode cL_law 826 = .ok (.invokevirtual 93, 3) := xRw_t rL_law_769_ok (k := 49) rfl
theorem dL_law_829 : decode cL_law 829 = .ok (.pop, 1) := xRw_t rL_law_769_ok (k := 50) rfl
theorem dL_law_830 : decode cL_law 830 = .ok (.goto 419, 3) := xRw_t rL_law_769_ok (k := 51) rfl
theorem dL_law_833 : decode cL_law 833 = .ok (.aload_n 1, 1) := xRw_t rL_law_769_ok (k := 52) rfl
theorem dL_law_834 : decode cL_law 834 = .ok (.aload_n 0, 1) := xRw_t rL_law_769_ok (k := 53) rfl
theorem dL_law_835 : decode cL_law 835 = .ok (.iload_n 3, 1) := xRw_t rL_law_769_ok (k := 54) rfl
theorem dL_law_836 : decode cL_law 836 = .ok (.iconst 1, 1) := xRw_t rL_law_769_ok (k := 55) rfl
theorem dL_law_837 : decode cL_law 837 = .ok (.iadd, 1) := xRw_t rL_law_769_ok (k := 56) rfl
theorem dL_law_838 : decode cL_law 838 = .ok (.iaload, 1) := xRw_t rL_law_769_ok (k := 57) rfl
theorem dL_law_839 : decode cL_law 839 = .ok (.aload_n 0, 1) := xRw_t rL_law_769_ok (k := 58) rfl
theorem dL_law_840 : decode cL_law 840 = .ok (.iload_n 3, 1) := xRw_t rL_law_769_ok (k := 59) rfl
theorem dL_law_841 : decode cL_law 841 = .ok (.iconst 2, 1) := xRw_t rL_law_769_ok (k := 60) rfl
theorem dL_law_842 : decode cL_law 842 = .ok (.iadd, 1) := xRw_t rL_law_769_ok (k := 61) rfl
theorem dL_law_843 : decode cL_law 843 = .ok (.iaload, 1) := xRw_t rL_law_769_ok (k := 62) rfl
theorem dL_law_844 : decode cL_law 844 = .ok (.aload_n 0, 1) := xRw_t rL_law_769_ok (k := 63) rfl
def rL_law_845 : List (Nat × Instr × Nat) := [(845, .iload_n 3, 1), (846, .iconst 3, 1), (847, .iadd, 1), (848, .iaload, 1), (849, .aload_n 0, 1), (850, .iload_n 3, 1), (851, .iconst 4, 1), (852, .iadd, 1), (853, .iaload, 1), (854, .invokevirtual 94, 3), (857, .pop2, 1), (858, .aload_n 2, 1), (859, .aload_n 0, 1), (860, .iload_n 3, 1), (861, .iconst 1, 1), (862, .iadd, 1), (863, .iaload, 1), (864, .aload_n 0, 1), (865, .iload_n 3, 1), (866, .iconst 2, 1), (867, .iadd, 1), (868, .iaload, 1), (869, .aload_n 0, 1), (870, .iload_n 3, 1), (871, .iconst 3, 1), (872, .iadd, 1), (873, .iaload, 1), (874, .aload_n 0, 1), (875, .iload_n 3, 1), (876, .iconst 4, 1), (877, .iadd, 1), (878, .iaload, 1), (879, .invokevirtual 97, 3), (882, .pop2, 1), (883, .goto 366, 3), (886, .aload_n 1, 1), (887, .aload_n 0, 1), (888, .iload_n 3, 1), (889, .iconst 1, 1), (890, .iadd, 1), (891, .iaload, 1), (892, .aload_n 0, 1), (893, .iload_n 3, 1), (894, .iconst 2, 1), (895, .iadd, 1), (896, .iaload, 1), (897, .invokevirtual 98, 3), (900, .pop, 1), (901, .aload_n 2, 1), (902, .aload_n 0, 1), (903, .iload_n 3, 1), (904, .iconst 1, 1), (905, .iadd, 1), (906, .iaload, 1), (907, .aload_n 0, 1), (908, .iload_n 3, 1), (909, .iconst 2, 1), (910, .iadd, 1), (911, .iaload, 1), (912, .invokevirtual 101, 3), (915, .pop, 1), (916, .goto 333, 3), (919, .aload_n 1, 1), (920, .aload_n 0, 1)]
theorem rL_law_845_ok : xRw cL_law rL_law_845 = true := by decide +kernel
theorem dL_law_845 : decode cL_law 845 = .ok (.iload_n 3, 1) := xRw_t rL_law_845_ok (k := 0) rfl
theorem dL_law_846 : decode cL_law 846 = .ok (.iconst 3, 1) := xRw_t rL_law_845_ok (k := 1) rfl
theorem dL_law_847 : decode cL_law 847 = .ok (.iadd, 1) := xRw_t rL_law_845_ok (k := 2) rfl
theorem dL_law_848 : decode cL_law 848 = .ok (.iaload, 1) := xRw_t rL_law_845_ok (k := 3) rfl
theorem dL_law_849 : decode cL_law 849 = .ok (.aload_n 0, 1) := xRw_t rL_law_845_ok (k := 4) rfl
theorem dL_law_850 : decode cL_law 850 = .ok (.iload_n 3, 1) := xRw_t rL_law_845_ok (k := 5) rfl
theorem dL_law_851 : decode cL_law 851 = .ok (.iconst 4, 1) := xRw_t rL_law_845_ok (k := 6) rfl
theorem dL_law_852 : decode cL_law 852 = .ok (.iadd, 1) := xRw_t rL_law_845_ok (k := 7) rfl
theorem dL_law_853 : decode cL_law 853 = .ok (.iaload, 1) := xRw_t rL_law_845_ok (k := 8) rfl
theorem dL_law_854 : decode cL_law 854 = .ok (.invokevirtual 94, 3) := xRw_t rL_law_845_ok (k := 9) rfl
theorem dL_law_857 : decode cL_law 857 = .ok (.pop2, 1) := xRw_t rL_law_845_ok (k := 10) rfl
theorem dL_law_858 : decode cL_law 858 = .ok (.aload_n 2, 1) := xRw_t rL_law_845_ok (k := 11) rfl
theorem dL_law_859 : decode cL_law 859 = .ok (.aload_n 0, 1) := xRw_t rL_law_845_ok (k := 12) rfl
theorem dL_law_860 : decode cL_law 860 = .ok (.iload_n 3, 1) := xRw_t rL_law_845_ok (k := 13) rfl
theorem dL_law_861 : decode cL_law 861 = .ok (.iconst 1, 1) := xRw_t rL_law_845_ok (k := 14) rfl
theorem dL_law_862 : decode cL_law 862 = .ok (.iadd, 1) := xRw_t rL_law_845_ok (k := 15) rfl
theorem dL_law_863 : decode cL_law 863 = .ok (.iaload, 1) := xRw_t rL_law_845_ok (k := 16) rfl
theorem dL_law_864 : decode cL_law 864 = .ok (.aload_n 0, 1) := xRw_t rL_law_845_ok (k := 17) rfl
theorem dL_law_865 : decode cL_law 865 = .ok (.iload_n 3, 1) := xRw_t rL_law_845_ok (k := 18) rfl
theorem dL_law_866 : decode cL_law 866 = .ok (.iconst 2, 1) := xRw_t rL_law_845_ok (k := 19) rfl
theorem dL_law_867 : decode cL_law 867 = .ok (.iadd, 1) := xRw_t rL_law_845_ok (k := 20) rfl
theorem dL_law_868 : decode cL_law 868 = .ok (.iaload, 1) := xRw_t rL_law_845_ok (k := 21) rfl
theorem dL_law_869 : decode cL_law 869 = .ok (.aload_n 0, 1) := xRw_t rL_law_845_ok (k := 22) rfl
theorem dL_law_870 : decode cL_law 870 = .ok (.iload_n 3, 1) := xRw_t rL_law_845_ok (k := 23) rfl
theorem dL_law_871 : decode cL_law 871 = .ok (.iconst 3, 1) := xRw_t rL_law_845_ok (k := 24) rfl
theorem dL_law_872 : decode cL_law 872 = .ok (.iadd, 1) := xRw_t rL_law_845_ok (k := 25) rfl
theorem dL_law_873 : decode cL_law 873 = .ok (.iaload, 1) := xRw_t rL_law_845_ok (k := 26) rfl
theorem dL_law_874 : decode cL_law 874 = .ok (.aload_n 0, 1) := xRw_t rL_law_845_ok (k := 27) rfl
theorem dL_law_875 : decode cL_law 875 = .ok (.iload_n 3, 1) := xRw_t rL_law_845_ok (k := 28) rfl
theorem dL_law_876 : decode cL_law 876 = .ok (.iconst 4, 1) := xRw_t rL_law_845_ok (k := 29) rfl
theorem dL_law_877 : decode cL_law 877 = .ok (.iadd, 1) := xRw_t rL_law_845_ok (k := 30) rfl
theorem dL_law_878 : decode cL_law 878 = .ok (.iaload, 1) := xRw_t rL_law_845_ok (k := 31) rfl
theorem dL_law_879 : decode cL_law 879 = .ok (.invokevirtual 97, 3) := xRw_t rL_law_845_ok (k := 32) rfl
theorem dL_law_882 : decode cL_law 882 = .ok (.pop2, 1) := xRw_t rL_law_845_ok (k := 33) rfl
theorem dL_law_883 : decode cL_law 883 = .ok (.goto 366, 3) := xRw_t rL_law_845_ok (k := 34) rfl
theorem dL_law_886 : decode cL_law 886 = .ok (.aload_n 1, 1) := xRw_t rL_law_845_ok (k := 35) rfl
theorem dL_law_887 : decode cL_law 887 = .ok (.aload_n 0, 1) := xRw_t rL_law_845_ok (k := 36) rfl
theorem dL_law_888 : decode cL_law 888 = .ok (.iload_n 3, 1) := xRw_t rL_law_845_ok (k := 37) rfl
theorem dL_law_889 : decode cL_law 889 = .ok (.iconst 1, 1) := xRw_t rL_law_845_ok (k := 38) rfl
theorem dL_law_890 : decode cL_law 890 = .ok (.iadd, 1) := xRw_t rL_law_845_ok (k := 39) rfl
theorem dL_law_891 : decode cL_law 891 = .ok (.iaload, 1) := xRw_t rL_law_845_ok (k := 40) rfl
theorem dL_law_892 : decode cL_law 892 = .ok (.aload_n 0, 1) := xRw_t rL_law_845_ok (k := 41) rfl
theorem dL_law_893 : decode cL_law 893 = .ok (.iload_n 3, 1) := xRw_t rL_law_845_ok (k := 42) rfl
theorem dL_law_894 : decode cL_law 894 = .ok (.iconst 2, 1) := xRw_t rL_law_845_ok (k := 43) rfl
theorem dL_law_895 : decode cL_law 895 = .ok (.iadd, 1) := xRw_t rL_law_845_ok (k := 44) rfl
theorem dL_law_896 : decode cL_law 896 = .ok (.iaload, 1) := xRw_t rL_law_845_ok (k := 45) rfl
theorem dL_law_897 : decode cL_law 897 = .ok (.invokevirtual 98, 3) := xRw_t rL_law_845_ok (k := 46) rfl
theorem dL_law_900 : decode cL_law 900 = .ok (.pop, 1) := xRw_t rL_law_845_ok (k := 47) rfl
theorem dL_law_901 : decode cL_law 901 = .ok (.aload_n 2, 1) := xRw_t rL_law_845_ok (k := 48) rfl
theorem dL_law_902 : decode cL_law 902 = .ok (.aload_n 0, 1) := xRw_t rL_law_845_ok (k := 49) rfl
theorem dL_law_903 : decode cL_law 903 = .ok (.iload_n 3, 1) := xRw_t rL_law_845_ok (k := 50) rfl
theorem dL_law_904 : decode cL_law 904 = .ok (.iconst 1, 1) := xRw_t rL_law_845_ok (k := 51) rfl
theorem dL_law_905 : decode cL_law 905 = .ok (.iadd, 1) := xRw_t rL_law_845_ok (k := 52) rfl
theorem dL_law_906 : decode cL_law 906 = .ok (.iaload, 1) := xRw_t rL_law_845_ok (k := 53) rfl
theorem dL_law_907 : decode cL_law 907 = .ok (.aload_n 0, 1) := xRw_t rL_law_845_ok (k := 54) rfl
theorem dL_law_908 : decode cL_law 908 = .ok (.iload_n 3, 1) := xRw_t rL_law_845_ok (k := 55) rfl
theorem dL_law_909 : decode cL_law 909 = .ok (.iconst 2, 1) := xRw_t rL_law_845_ok (k := 56) rfl
theorem dL_law_910 : decode cL_law 910 = .ok (.iadd, 1) := xRw_t rL_law_845_ok (k := 57) rfl
theorem dL_law_911 : decode cL_law 911 = .ok (.iaload, 1) := xRw_t rL_law_845_ok (k := 58) rfl
theorem dL_law_912 : decode cL_law 912 = .ok (.invokevirtual 101, 3) := xRw_t rL_law_845_ok (k := 59) rfl
theorem dL_law_915 : decode cL_law 915 = .ok (.pop, 1) := xRw_t rL_law_845_ok (k := 60) rfl
theorem dL_law_916 : decode cL_law 916 = .ok (.goto 333, 3) := xRw_t rL_law_845_ok (k := 61) rfl
theorem dL_law_919 : decode cL_law 919 = .ok (.aload_n 1, 1) := xRw_t rL_law_845_ok (k := 62) rfl
theorem dL_law_920 : decode cL_law 920 = .ok (.aload_n 0, 1) := xRw_t rL_law_845_ok (k := 63) rfl
def rL_law_921 : List (Nat × Instr × Nat) := [(921, .iload_n 3, 1), (922, .iconst 1, 1), (923, .iadd, 1), (924, .iaload, 1), (925, .aload_n 0, 1), (926, .iload_n 3, 1), (927, .iconst 2, 1), (928, .iadd, 1), (929, .iaload, 1), (930, .aload_n 0, 1), (931, .iload_n 3, 1), (932, .iconst 3, 1), (933, .iadd, 1), (934, .iaload, 1), (935, .aload_n 0, 1), (936, .iload_n 3, 1), (937, .iconst 4, 1), (938, .iadd, 1), (939, .iaload, 1), (940, .invokevirtual 102, 3), (943, .pop2, 1), (944, .aload_n 2, 1), (945, .aload_n 0, 1), (946, .iload_n 3, 1), (947, .iconst 1, 1), (948, .iadd, 1), (949, .iaload, 1), (950, .aload_n 0, 1), (951, .iload_n 3, 1), (952, .iconst 2, 1), (953, .iadd, 1), (954, .iaload, 1), (955, .aload_n 0, 1), (956, .iload_n 3, 1), (957, .iconst 3, 1), (958, .iadd, 1), (959, .iaload, 1), (960, .aload_n 0, 1), (961, .iload_n 3, 1), (962, .iconst 4, 1), (963, .iadd, 1), (964, .iaload, 1), (965, .invokevirtual 105, 3), (968, .pop2, 1), (969, .goto 280, 3), (972, .aload_n 1, 1), (973, .aload_n 0, 1), (974, .iload_n 3, 1), (975, .iconst 1, 1), (976, .iadd, 1), (977, .iaload, 1), (978, .aload_n 0, 1), (979, .iload_n 3, 1), (980, .iconst 2, 1), (981, .iadd, 1), (982, .iaload, 1), (983, .aload_n 0, 1), (984, .iload_n 3, 1), (985, .iconst 3, 1), (986, .iadd, 1), (987, .iaload, 1), (988, .aload_n 0, 1), (989, .iload_n 3, 1), (990, .iconst 4, 1)]
theorem rL_law_921_ok : xRw cL_law rL_law_921 = true := by decide +kernel
theorem dL_law_921 : decode cL_law 921 = .ok (.iload_n 3, 1) := xRw_t rL_law_921_ok (k := 0) rfl
theorem dL_law_922 : decode cL_law 922 = .ok (.iconst 1, 1) := xRw_t rL_law_921_ok (k := 1) rfl
theorem dL_law_923 : decode cL_law 923 = .ok (.iadd, 1) := xRw_t rL_law_921_ok (k := 2) rfl
theorem dL_law_924 : decode cL_law 924 = .ok (.iaload, 1) := xRw_t rL_law_921_ok (k := 3) rfl
theorem dL_law_925 : decode cL_law 925 = .ok (.aload_n 0, 1) := xRw_t rL_law_921_ok (k := 4) rfl
theorem dL_law_926 : decode cL_law 926 = .ok (.iload_n 3, 1) := xRw_t rL_law_921_ok (k := 5) rfl
theorem dL_law_927 : decode cL_law 927 = .ok (.iconst 2, 1) := xRw_t rL_law_921_ok (k := 6) rfl
theorem dL_law_928 : decode cL_law 928 = .ok (.iadd, 1) := xRw_t rL_law_921_ok (k := 7) rfl
theorem dL_law_929 : decode cL_law 929 = .ok (.iaload, 1) := xRw_t rL_law_921_ok (k := 8) rfl
theorem dL_law_930 : decode cL_law 930 = .ok (.aload_n 0, 1) := xRw_t rL_law_921_ok (k := 9) rfl
theorem dL_law_931 : decode cL_law 931 = .ok (.iload_n 3, 1) := xRw_t rL_law_921_ok (k := 10) rfl
theorem dL_law_932 : decode cL_law 932 = .ok (.iconst 3, 1) := xRw_t rL_law_921_ok (k := 11) rfl
theorem dL_law_933 : decode cL_law 933 = .ok (.iadd, 1) := xRw_t rL_law_921_ok (k := 12) rfl
theorem dL_law_934 : decode cL_law 934 = .ok (.iaload, 1) := xRw_t rL_law_921_ok (k := 13) rfl
theorem dL_law_935 : decode cL_law 935 = .ok (.aload_n 0, 1) := xRw_t rL_law_921_ok (k := 14) rfl
theorem dL_law_936 : decode cL_law 936 = .ok (.iload_n 3, 1) := xRw_t rL_law_921_ok (k := 15) rfl
theorem dL_law_937 : decode cL_law 937 = .ok (.iconst 4, 1) := xRw_t rL_law_921_ok (k := 16) rfl
theorem dL_law_938 : decode cL_law 938 = .ok (.iadd, 1) := xRw_t rL_law_921_ok (k := 17) rfl
theorem dL_law_939 : decode cL_law 939 = .ok (.iaload, 1) := xRw_t rL_law_921_ok (k := 18) rfl
theorem dL_law_940 : decode cL_law 940 = .ok (.invokevirtual 102, 3) := xRw_t rL_law_921_ok (k := 19) rfl
theorem dL_law_943 : decode cL_law 943 = .ok (.pop2, 1) := xRw_t rL_law_921_ok (k := 20) rfl
theorem dL_law_944 : decode cL_law 944 = .ok (.aload_n 2, 1) := xRw_t rL_law_921_ok (k := 21) rfl
theorem dL_law_945 : decode cL_law 945 = .ok (.aload_n 0, 1) := xRw_t rL_law_921_ok (k := 22) rfl
theorem dL_law_946 : decode cL_law 946 = .ok (.iload_n 3, 1) := xRw_t rL_law_921_ok (k := 23) rfl
theorem dL_law_947 : decode cL_law 947 = .ok (.iconst 1, 1) := xRw_t rL_law_921_ok (k := 24) rfl
theorem dL_law_948 : decode cL_law 948 = .ok (.iadd, 1) := xRw_t rL_law_921_ok (k := 25) rfl
theorem dL_law_949 : decode cL_law 949 = .ok (.iaload, 1) := xRw_t rL_law_921_ok (k := 26) rfl
theorem dL_law_950 : decode cL_law 950 = .ok (.aload_n 0, 1) := xRw_t rL_law_921_ok (k := 27) rfl
theorem dL_law_951 : decode cL_law 951 = .ok (.iload_n 3, 1) := xRw_t rL_law_921_ok (k := 28) rfl
theorem dL_law_952 : decode cL_law 952 = .ok (.iconst 2, 1) := xRw_t rL_law_921_ok (k := 29) rfl
theorem dL_law_953 : decode cL_law 953 = .ok (.iadd, 1) := xRw_t rL_law_921_ok (k := 30) rfl
theorem dL_law_954 : decode cL_law 954 = .ok (.iaload, 1) := xRw_t rL_law_921_ok (k := 31) rfl
theorem dL_law_955 : decode cL_law 955 = .ok (.aload_n 0, 1) := xRw_t rL_law_921_ok (k := 32) rfl
theorem dL_law_956 : decode cL_law 956 = .ok (.iload_n 3, 1) := xRw_t rL_law_921_ok (k := 33) rfl
theorem dL_law_957 : decode cL_law 957 = .ok (.iconst 3, 1) := xRw_t rL_law_921_ok (k := 34) rfl
theorem dL_law_958 : decode cL_law 958 = .ok (.iadd, 1) := xRw_t rL_law_921_ok (k := 35) rfl
theorem dL_law_959 : decode cL_law 959 = .ok (.iaload, 1) := xRw_t rL_law_921_ok (k := 36) rfl
theorem dL_law_960 : decode cL_law 960 = .ok (.aload_n 0, 1) := xRw_t rL_law_921_ok (k := 37) rfl
theorem dL_law_961 : decode cL_law 961 = .ok (.iload_n 3, 1) := xRw_t rL_law_921_ok (k := 38) rfl
theorem dL_law_962 : decode cL_law 962 = .ok (.iconst 4, 1) := xRw_t rL_law_921_ok (k := 39) rfl
theorem dL_law_963 : decode cL_law 963 = .ok (.iadd, 1) := xRw_t rL_law_921_ok (k := 40) rfl
theorem dL_law_964 : decode cL_law 964 = .ok (.iaload, 1) := xRw_t rL_law_921_ok (k := 41) rfl
theorem dL_law_965 : decode cL_law 965 = .ok (.invokevirtual 105, 3) := xRw_t rL_law_921_ok (k := 42) rfl
theorem dL_law_968 : decode cL_law 968 = .ok (.pop2, 1) := xRw_t rL_law_921_ok (k := 43) rfl
theorem dL_law_969 : decode cL_law 969 = .ok (.goto 280, 3) := xRw_t rL_law_921_ok (k := 44) rfl
theorem dL_law_972 : decode cL_law 972 = .ok (.aload_n 1, 1) := xRw_t rL_law_921_ok (k := 45) rfl
theorem dL_law_973 : decode cL_law 973 = .ok (.aload_n 0, 1) := xRw_t rL_law_921_ok (k := 46) rfl
theorem dL_law_974 : decode cL_law 974 = .ok (.iload_n 3, 1) := xRw_t rL_law_921_ok (k := 47) rfl
theorem dL_law_975 : decode cL_law 975 = .ok (.iconst 1, 1) := xRw_t rL_law_921_ok (k := 48) rfl
theorem dL_law_976 : decode cL_law 976 = .ok (.iadd, 1) := xRw_t rL_law_921_ok (k := 49) rfl
theorem dL_law_977 : decode cL_law 977 = .ok (.iaload, 1) := xRw_t rL_law_921_ok (k := 50) rfl
theorem dL_law_978 : decode cL_law 978 = .ok (.aload_n 0, 1) := xRw_t rL_law_921_ok (k := 51) rfl
theorem dL_law_979 : decode cL_law 979 = .ok (.iload_n 3, 1) := xRw_t rL_law_921_ok (k := 52) rfl
theorem dL_law_980 : decode cL_law 980 = .ok (.iconst 2, 1) := xRw_t rL_law_921_ok (k := 53) rfl
theorem dL_law_981 : decode cL_law 981 = .ok (.iadd, 1) := xRw_t rL_law_921_ok (k := 54) rfl
theorem dL_law_982 : decode cL_law 982 = .ok (.iaload, 1) := xRw_t rL_law_921_ok (k := 55) rfl
theorem dL_law_983 : decode cL_law 983 = .ok (.aload_n 0, 1) := xRw_t rL_law_921_ok (k := 56) rfl
theorem dL_law_984 : decode cL_law 984 = .ok (.iload_n 3, 1) := xRw_t rL_law_921_ok (k := 57) rfl
theorem dL_law_985 : decode cL_law 985 = .ok (.iconst 3, 1) := xRw_t rL_law_921_ok (k := 58) rfl
theorem dL_law_986 : decode cL_law 986 = .ok (.iadd, 1) := xRw_t rL_law_921_ok (k := 59) rfl
theorem dL_law_987 : decode cL_law 987 = .ok (.iaload, 1) := xRw_t rL_law_921_ok (k := 60) rfl
theorem dL_law_988 : decode cL_law 988 = .ok (.aload_n 0, 1) := xRw_t rL_law_921_ok (k := 61) rfl
theorem dL_law_989 : decode cL_law 989 = .ok (.iload_n 3, 1) := xRw_t rL_law_921_ok (k := 62) rfl
theorem dL_law_990 : decode cL_law 990 = .ok (.iconst 4, 1) := xRw_t rL_law_921_ok (k := 63) rfl
def rL_law_991 : List (Nat × Instr × Nat) := [(991, .iadd, 1), (992, .iaload, 1), (993, .aload_n 0, 1), (994, .iload_n 3, 1), (995, .iconst 5, 1), (996, .iadd, 1), (997, .iaload, 1), (998, .invokevirtual 106, 3), (1001, .pop2, 1), (1002, .aload_n 2, 1), (1003, .aload_n 0, 1), (1004, .iload_n 3, 1), (1005, .iconst 1, 1), (1006, .iadd, 1), (1007, .iaload, 1), (1008, .aload_n 0, 1), (1009, .iload_n 3, 1), (1010, .iconst 2, 1), (1011, .iadd, 1), (1012, .iaload, 1), (1013, .aload_n 0, 1), (1014, .iload_n 3, 1), (1015, .iconst 3, 1), (1016, .iadd, 1), (1017, .iaload, 1), (1018, .aload_n 0, 1), (1019, .iload_n 3, 1), (1020, .iconst 4, 1), (1021, .iadd, 1), (1022, .iaload, 1), (1023, .aload_n 0, 1), (1024, .iload_n 3, 1), (1025, .iconst 5, 1), (1026, .iadd, 1), (1027, .iaload, 1), (1028, .invokevirtual 109, 3), (1031, .pop2, 1), (1032, .goto 217, 3), (1035, .aload_n 1, 1), (1036, .aload_n 0, 1), (1037, .iload_n 3, 1), (1038, .iconst 1, 1), (1039, .iadd, 1), (1040, .iaload, 1), (1041, .aload_n 0, 1), (1042, .iload_n 3, 1), (1043, .iconst 2, 1), (1044, .iadd, 1), (1045, .iaload, 1), (1046, .aload_n 0, 1), (1047, .iload_n 3, 1), (1048, .iconst 3, 1), (1049, .iadd, 1), (1050, .iaload, 1), (1051, .aload_n 0, 1), (1052, .iload_n 3, 1), (1053, .iconst 4, 1), (1054, .iadd, 1), (1055, .iaload, 1), (1056, .invokevirtual 110, 3), (1059, .pop, 1), (1060, .aload_n 2, 1), (1061, .aload_n 0, 1), (1062, .iload_n 3, 1)]
theorem rL_law_991_ok : xRw cL_law rL_law_991 = true := by decide +kernel
theorem dL_law_991 : decode cL_law 991 = .ok (.iadd, 1) := xRw_t rL_law_991_ok (k := 0) rfl
theorem dL_law_992 : decode cL_law 992 = .ok (.iaload, 1) := xRw_t rL_law_991_ok (k := 1) rfl
theorem dL_law_993 : decode cL_law 993 = .ok (.aload_n 0, 1) := xRw_t rL_law_991_ok (k := 2) rfl
theorem dL_law_994 : decode cL_law 994 = .ok (.iload_n 3, 1) := xRw_t rL_law_991_ok (k := 3) rfl
theorem dL_law_995 : decode cL_law 995 = .ok (.iconst 5, 1) := xRw_t rL_law_991_ok (k := 4) rfl
theorem dL_law_996 : decode cL_law 996 = .ok (.iadd, 1) := xRw_t rL_law_991_ok (k := 5) rfl
theorem dL_law_997 : decode cL_law 997 = .ok (.iaload, 1) := xRw_t rL_law_991_ok (k := 6) rfl
theorem dL_law_998 : decode cL_law 998 = .ok (.invokevirtual 106, 3) := xRw_t rL_law_991_ok (k := 7) rfl
theorem dL_law_1001 : decode cL_law 1001 = .ok (.pop2, 1) := xRw_t rL_law_991_ok (k := 8) rfl
theorem dL_law_1002 : decode cL_law 1002 = .ok (.aload_n 2, 1) := xRw_t rL_law_991_ok (k := 9) rfl
theorem dL_law_1003 : decode cL_law 1003 = .ok (.aload_n 0, 1) := xRw_t rL_law_991_ok (k := 10) rfl
theorem dL_law_1004 : decode cL_law 1004 = .ok (.iload_n 3, 1) := xRw_t rL_law_991_ok (k := 11) rfl
theorem dL_law_1005 : decode cL_law 1005 = .ok (.iconst 1, 1) := xRw_t rL_law_991_ok (k := 12) rfl
theorem dL_law_1006 : decode cL_law 1006 = .ok (.iadd, 1) := xRw_t rL_law_991_ok (k := 13) rfl
theorem dL_law_1007 : decode cL_law 1007 = .ok (.iaload, 1) := xRw_t rL_law_991_ok (k := 14) rfl
theorem dL_law_1008 : decode cL_law 1008 = .ok (.aload_n 0, 1) := xRw_t rL_law_991_ok (k := 15) rfl
theorem dL_law_1009 : decode cL_law 1009 = .ok (.iload_n 3, 1) := xRw_t rL_law_991_ok (k := 16) rfl
theorem dL_law_1010 : decode cL_law 1010 = .ok (.iconst 2, 1) := xRw_t rL_law_991_ok (k := 17) rfl
theorem dL_law_1011 : decode cL_law 1011 = .ok (.iadd, 1) := xRw_t rL_law_991_ok (k := 18) rfl
theorem dL_law_1012 : decode cL_law 1012 = .ok (.iaload, 1) := xRw_t rL_law_991_ok (k := 19) rfl
theorem dL_law_1013 : decode cL_law 1013 = .ok (.aload_n 0, 1) := xRw_t rL_law_991_ok (k := 20) rfl
theorem dL_law_1014 : decode cL_law 1014 = .ok (.iload_n 3, 1) := xRw_t rL_law_991_ok (k := 21) rfl
theorem dL_law_1015 : decode cL_law 1015 = .ok (.iconst 3, 1) := xRw_t rL_law_991_ok (k := 22) rfl
theorem dL_law_1016 : decode cL_law 1016 = .ok (.iadd, 1) := xRw_t rL_law_991_ok (k := 23) rfl
theorem dL_law_1017 : decode cL_law 1017 = .ok (.iaload, 1) := xRw_t rL_law_991_ok (k := 24) rfl
theorem dL_law_1018 : decode cL_law 1018 = .ok (.aload_n 0, 1) := xRw_t rL_law_991_ok (k := 25) rfl
theorem dL_law_1019 : decode cL_law 1019 = .ok (.iload_n 3, 1) := xRw_t rL_law_991_ok (k := 26) rfl
theorem dL_law_1020 : decode cL_law 1020 = .ok (.iconst 4, 1) := xRw_t rL_law_991_ok (k := 27) rfl
theorem dL_law_1021 : decode cL_law 1021 = .ok (.iadd, 1) := xRw_t rL_law_991_ok (k := 28) rfl
theorem dL_law_1022 : decode cL_law 1022 = .ok (.iaload, 1) := xRw_t rL_law_991_ok (k := 29) rfl
theorem dL_law_1023 : decode cL_law 1023 = .ok (.aload_n 0, 1) := xRw_t rL_law_991_ok (k := 30) rfl
theorem dL_law_1024 : decode cL_law 1024 = .ok (.iload_n 3, 1) := xRw_t rL_law_991_ok (k := 31) rfl
theorem dL_law_1025 : decode cL_law 1025 = .ok (.iconst 5, 1) := xRw_t rL_law_991_ok (k := 32) rfl
theorem dL_law_1026 : decode cL_law 1026 = .ok (.iadd, 1) := xRw_t rL_law_991_ok (k := 33) rfl
theorem dL_law_1027 : decode cL_law 1027 = .ok (.iaload, 1) := xRw_t rL_law_991_ok (k := 34) rfl
theorem dL_law_1028 : decode cL_law 1028 = .ok (.invokevirtual 109, 3) := xRw_t rL_law_991_ok (k := 35) rfl
theorem dL_law_1031 : decode cL_law 1031 = .ok (.pop2, 1) := xRw_t rL_law_991_ok (k := 36) rfl
theorem dL_law_1032 : decode cL_law 1032 = .ok (.goto 217, 3) := xRw_t rL_law_991_ok (k := 37) rfl
theorem dL_law_1035 : decode cL_law 1035 = .ok (.aload_n 1, 1) := xRw_t rL_law_991_ok (k := 38) rfl
theorem dL_law_1036 : decode cL_law 1036 = .ok (.aload_n 0, 1) := xRw_t rL_law_991_ok (k := 39) rfl
theorem dL_law_1037 : decode cL_law 1037 = .ok (.iload_n 3, 1) := xRw_t rL_law_991_ok (k := 40) rfl
theorem dL_law_1038 : decode cL_law 1038 = .ok (.iconst 1, 1) := xRw_t rL_law_991_ok (k := 41) rfl
theorem dL_law_1039 : decode cL_law 1039 = .ok (.iadd, 1) := xRw_t rL_law_991_ok (k := 42) rfl
theorem dL_law_1040 : decode cL_law 1040 = .ok (.iaload, 1) := xRw_t rL_law_991_ok (k := 43) rfl
theorem dL_law_1041 : decode cL_law 1041 = .ok (.aload_n 0, 1) := xRw_t rL_law_991_ok (k := 44) rfl
theorem dL_law_1042 : decode cL_law 1042 = .ok (.iload_n 3, 1) := xRw_t rL_law_991_ok (k := 45) rfl
theorem dL_law_1043 : decode cL_law 1043 = .ok (.iconst 2, 1) := xRw_t rL_law_991_ok (k := 46) rfl
theorem dL_law_1044 : decode cL_law 1044 = .ok (.iadd, 1) := xRw_t rL_law_991_ok (k := 47) rfl
theorem dL_law_1045 : decode cL_law 1045 = .ok (.iaload, 1) := xRw_t rL_law_991_ok (k := 48) rfl
theorem dL_law_1046 : decode cL_law 1046 = .ok (.aload_n 0, 1) := xRw_t rL_law_991_ok (k := 49) rfl
theorem dL_law_1047 : decode cL_law 1047 = .ok (.iload_n 3, 1) := xRw_t rL_law_991_ok (k := 50) rfl
theorem dL_law_1048 : decode cL_law 1048 = .ok (.iconst 3, 1) := xRw_t rL_law_991_ok (k := 51) rfl
theorem dL_law_1049 : decode cL_law 1049 = .ok (.iadd, 1) := xRw_t rL_law_991_ok (k := 52) rfl
theorem dL_law_1050 : decode cL_law 1050 = .ok (.iaload, 1) := xRw_t rL_law_991_ok (k := 53) rfl
theorem dL_law_1051 : decode cL_law 1051 = .ok (.aload_n 0, 1) := xRw_t rL_law_991_ok (k := 54) rfl
theorem dL_law_1052 : decode cL_law 1052 = .ok (.iload_n 3, 1) := xRw_t rL_law_991_ok (k := 55) rfl
theorem dL_law_1053 : decode cL_law 1053 = .ok (.iconst 4, 1) := xRw_t rL_law_991_ok (k := 56) rfl
theorem dL_law_1054 : decode cL_law 1054 = .ok (.iadd, 1) := xRw_t rL_law_991_ok (k := 57) rfl
theorem dL_law_1055 : decode cL_law 1055 = .ok (.iaload, 1) := xRw_t rL_law_991_ok (k := 58) rfl
theorem dL_law_1056 : decode cL_law 1056 = .ok (.invokevirtual 110, 3) := xRw_t rL_law_991_ok (k := 59) rfl
theorem dL_law_1059 : decode cL_law 1059 = .ok (.pop, 1) := xRw_t rL_law_991_ok (k := 60) rfl
theorem dL_law_1060 : decode cL_law 1060 = .ok (.aload_n 2, 1) := xRw_t rL_law_991_ok (k := 61) rfl
theorem dL_law_1061 : decode cL_law 1061 = .ok (.aload_n 0, 1) := xRw_t rL_law_991_ok (k := 62) rfl
theorem dL_law_1062 : decode cL_law 1062 = .ok (.iload_n 3, 1) := xRw_t rL_law_991_ok (k := 63) rfl
def rL_law_1063 : List (Nat × Instr × Nat) := [(1063, .iconst 1, 1), (1064, .iadd, 1), (1065, .iaload, 1), (1066, .aload_n 0, 1), (1067, .iload_n 3, 1), (1068, .iconst 2, 1), (1069, .iadd, 1), (1070, .iaload, 1), (1071, .aload_n 0, 1), (1072, .iload_n 3, 1), (1073, .iconst 3, 1), (1074, .iadd, 1), (1075, .iaload, 1), (1076, .aload_n 0, 1), (1077, .iload_n 3, 1), (1078, .iconst 4, 1), (1079, .iadd, 1), (1080, .iaload, 1), (1081, .invokevirtual 113, 3), (1084, .pop, 1), (1085, .goto 164, 3), (1088, .aload_n 1, 1), (1089, .aload_n 0, 1), (1090, .iload_n 3, 1), (1091, .iconst 1, 1), (1092, .iadd, 1), (1093, .iaload, 1), (1094, .invokevirtual 114, 3), (1097, .pop, 1), (1098, .aload_n 2, 1), (1099, .aload_n 0, 1), (1100, .iload_n 3, 1), (1101, .iconst 1, 1), (1102, .iadd, 1), (1103, .iaload, 1), (1104, .invokevirtual 117, 3), (1107, .pop, 1), (1108, .goto 141, 3), (1111, .aload_n 1, 1), (1112, .aload_n 0, 1), (1113, .iload_n 3, 1), (1114, .iconst 1, 1), (1115, .iadd, 1), (1116, .iaload, 1), (1117, .invokevirtual 118, 3), (1120, .pop, 1), (1121, .aload_n 2, 1), (1122, .aload_n 0, 1), (1123, .iload_n 3, 1), (1124, .iconst 1, 1), (1125, .iadd, 1), (1126, .iaload, 1), (1127, .invokevirtual 121, 3), (1130, .pop, 1), (1131, .goto 118, 3), (1134, .aload_n 1, 1), (1135, .invokevirtual 122, 3), (1138, .pop, 1), (1139, .aload_n 2, 1), (1140, .invokevirtual 125, 3), (1143, .pop, 1), (1144, .goto 105, 3), (1147, .aload_n 1, 1), (1148, .aload_n 0, 1)]
theorem rL_law_1063_ok : xRw cL_law rL_law_1063 = true := by decide +kernel
theorem dL_law_1063 : decode cL_law 1063 = .ok (.iconst 1, 1) := xRw_t rL_law_1063_ok (k := 0) rfl
theorem dL_law_1064 : decode cL_law 1064 = .ok (.iadd, 1) := xRw_t rL_law_1063_ok (k := 1) rfl
theorem dL_law_1065 : decode cL_law 1065 = .ok (.iaload, 1) := xRw_t rL_law_1063_ok (k := 2) rfl
theorem dL_law_1066 : decode cL_law 1066 = .ok (.aload_n 0, 1) := xRw_t rL_law_1063_ok (k := 3) rfl
theorem dL_law_1067 : decode cL_law 1067 = .ok (.iload_n 3, 1) := xRw_t rL_law_1063_ok (k := 4) rfl
theorem dL_law_1068 : decode cL_law 1068 = .ok (.iconst 2, 1) := xRw_t rL_law_1063_ok (k := 5) rfl
theorem dL_law_1069 : decode cL_law 1069 = .ok (.iadd, 1) := xRw_t rL_law_1063_ok (k := 6) rfl
theorem dL_law_1070 : decode cL_law 1070 = .ok (.iaload, 1) := xRw_t rL_law_1063_ok (k := 7) rfl
theorem dL_law_1071 : decode cL_law 1071 = .ok (.aload_n 0, 1) := xRw_t rL_law_1063_ok (k := 8) rfl
theorem dL_law_1072 : decode cL_law 1072 = .ok (.iload_n 3, 1) := xRw_t rL_law_1063_ok (k := 9) rfl
theorem dL_law_1073 : decode cL_law 1073 = .ok (.iconst 3, 1) := xRw_t rL_law_1063_ok (k := 10) rfl
theorem dL_law_1074 : decode cL_law 1074 = .ok (.iadd, 1) := xRw_t rL_law_1063_ok (k := 11) rfl
theorem dL_law_1075 : decode cL_law 1075 = .ok (.iaload, 1) := xRw_t rL_law_1063_ok (k := 12) rfl
theorem dL_law_1076 : decode cL_law 1076 = .ok (.aload_n 0, 1) := xRw_t rL_law_1063_ok (k := 13) rfl
theorem dL_law_1077 : decode cL_law 1077 = .ok (.iload_n 3, 1) := xRw_t rL_law_1063_ok (k := 14) rfl
theorem dL_law_1078 : decode cL_law 1078 = .ok (.iconst 4, 1) := xRw_t rL_law_1063_ok (k := 15) rfl
theorem dL_law_1079 : decode cL_law 1079 = .ok (.iadd, 1) := xRw_t rL_law_1063_ok (k := 16) rfl
theorem dL_law_1080 : decode cL_law 1080 = .ok (.iaload, 1) := xRw_t rL_law_1063_ok (k := 17) rfl
theorem dL_law_1081 : decode cL_law 1081 = .ok (.invokevirtual 113, 3) := xRw_t rL_law_1063_ok (k := 18) rfl
theorem dL_law_1084 : decode cL_law 1084 = .ok (.pop, 1) := xRw_t rL_law_1063_ok (k := 19) rfl
theorem dL_law_1085 : decode cL_law 1085 = .ok (.goto 164, 3) := xRw_t rL_law_1063_ok (k := 20) rfl
theorem dL_law_1088 : decode cL_law 1088 = .ok (.aload_n 1, 1) := xRw_t rL_law_1063_ok (k := 21) rfl
theorem dL_law_1089 : decode cL_law 1089 = .ok (.aload_n 0, 1) := xRw_t rL_law_1063_ok (k := 22) rfl
theorem dL_law_1090 : decode cL_law 1090 = .ok (.iload_n 3, 1) := xRw_t rL_law_1063_ok (k := 23) rfl
theorem dL_law_1091 : decode cL_law 1091 = .ok (.iconst 1, 1) := xRw_t rL_law_1063_ok (k := 24) rfl
theorem dL_law_1092 : decode cL_law 1092 = .ok (.iadd, 1) := xRw_t rL_law_1063_ok (k := 25) rfl
theorem dL_law_1093 : decode cL_law 1093 = .ok (.iaload, 1) := xRw_t rL_law_1063_ok (k := 26) rfl
theorem dL_law_1094 : decode cL_law 1094 = .ok (.invokevirtual 114, 3) := xRw_t rL_law_1063_ok (k := 27) rfl
theorem dL_law_1097 : decode cL_law 1097 = .ok (.pop, 1) := xRw_t rL_law_1063_ok (k := 28) rfl
theorem dL_law_1098 : decode cL_law 1098 = .ok (.aload_n 2, 1) := xRw_t rL_law_1063_ok (k := 29) rfl
theorem dL_law_1099 : decode cL_law 1099 = .ok (.aload_n 0, 1) := xRw_t rL_law_1063_ok (k := 30) rfl
theorem dL_law_1100 : decode cL_law 1100 = .ok (.iload_n 3, 1) := xRw_t rL_law_1063_ok (k := 31) rfl
theorem dL_law_1101 : decode cL_law 1101 = .ok (.iconst 1, 1) := xRw_t rL_law_1063_ok (k := 32) rfl
theorem dL_law_1102 : decode cL_law 1102 = .ok (.iadd, 1) := xRw_t rL_law_1063_ok (k := 33) rfl
theorem dL_law_1103 : decode cL_law 1103 = .ok (.iaload, 1) := xRw_t rL_law_1063_ok (k := 34) rfl
theorem dL_law_1104 : decode cL_law 1104 = .ok (.invokevirtual 117, 3) := xRw_t rL_law_1063_ok (k := 35) rfl
theorem dL_law_1107 : decode cL_law 1107 = .ok (.pop, 1) := xRw_t rL_law_1063_ok (k := 36) rfl
theorem dL_law_1108 : decode cL_law 1108 = .ok (.goto 141, 3) := xRw_t rL_law_1063_ok (k := 37) rfl
theorem dL_law_1111 : decode cL_law 1111 = .ok (.aload_n 1, 1) := xRw_t rL_law_1063_ok (k := 38) rfl
theorem dL_law_1112 : decode cL_law 1112 = .ok (.aload_n 0, 1) := xRw_t rL_law_1063_ok (k := 39) rfl
theorem dL_law_1113 : decode cL_law 1113 = .ok (.iload_n 3, 1) := xRw_t rL_law_1063_ok (k := 40) rfl
theorem dL_law_1114 : decode cL_law 1114 = .ok (.iconst 1, 1) := xRw_t rL_law_1063_ok (k := 41) rfl
theorem dL_law_1115 : decode cL_law 1115 = .ok (.iadd, 1) := xRw_t rL_law_1063_ok (k := 42) rfl
theorem dL_law_1116 : decode cL_law 1116 = .ok (.iaload, 1) := xRw_t rL_law_1063_ok (k := 43) rfl
theorem dL_law_1117 : decode cL_law 1117 = .ok (.invokevirtual 118, 3) := xRw_t rL_law_1063_ok (k := 44) rfl
theorem dL_law_1120 : decode cL_law 1120 = .ok (.pop, 1) := xRw_t rL_law_1063_ok (k := 45) rfl
theorem dL_law_1121 : decode cL_law 1121 = .ok (.aload_n 2, 1) := xRw_t rL_law_1063_ok (k := 46) rfl
theorem dL_law_1122 : decode cL_law 1122 = .ok (.aload_n 0, 1) := xRw_t rL_law_1063_ok (k := 47) rfl
theorem dL_law_1123 : decode cL_law 1123 = .ok (.iload_n 3, 1) := xRw_t rL_law_1063_ok (k := 48) rfl
theorem dL_law_1124 : decode cL_law 1124 = .ok (.iconst 1, 1) := xRw_t rL_law_1063_ok (k := 49) rfl
theorem dL_law_1125 : decode cL_law 1125 = .ok (.iadd, 1) := xRw_t rL_law_1063_ok (k := 50) rfl
theorem dL_law_1126 : decode cL_law 1126 = .ok (.iaload, 1) := xRw_t rL_law_1063_ok (k := 51) rfl
theorem dL_law_1127 : decode cL_law 1127 = .ok (.invokevirtual 121, 3) := xRw_t rL_law_1063_ok (k := 52) rfl
theorem dL_law_1130 : decode cL_law 1130 = .ok (.pop, 1) := xRw_t rL_law_1063_ok (k := 53) rfl
theorem dL_law_1131 : decode cL_law 1131 = .ok (.goto 118, 3) := xRw_t rL_law_1063_ok (k := 54) rfl
theorem dL_law_1134 : decode cL_law 1134 = .ok (.aload_n 1, 1) := xRw_t rL_law_1063_ok (k := 55) rfl
theorem dL_law_1135 : decode cL_law 1135 = .ok (.invokevirtual 122, 3) := xRw_t rL_law_1063_ok (k := 56) rfl
theorem dL_law_1138 : decode cL_law 1138 = .ok (.pop, 1) := xRw_t rL_law_1063_ok (k := 57) rfl
theorem dL_law_1139 : decode cL_law 1139 = .ok (.aload_n 2, 1) := xRw_t rL_law_1063_ok (k := 58) rfl
theorem dL_law_1140 : decode cL_law 1140 = .ok (.invokevirtual 125, 3) := xRw_t rL_law_1063_ok (k := 59) rfl
theorem dL_law_1143 : decode cL_law 1143 = .ok (.pop, 1) := xRw_t rL_law_1063_ok (k := 60) rfl
theorem dL_law_1144 : decode cL_law 1144 = .ok (.goto 105, 3) := xRw_t rL_law_1063_ok (k := 61) rfl
theorem dL_law_1147 : decode cL_law 1147 = .ok (.aload_n 1, 1) := xRw_t rL_law_1063_ok (k := 62) rfl
theorem dL_law_1148 : decode cL_law 1148 = .ok (.aload_n 0, 1) := xRw_t rL_law_1063_ok (k := 63) rfl
def rL_law_1149 : List (Nat × Instr × Nat) := [(1149, .iload_n 3, 1), (1150, .iconst 1, 1), (1151, .iadd, 1), (1152, .iaload, 1), (1153, .aload_n 0, 1), (1154, .iload_n 3, 1), (1155, .iconst 2, 1), (1156, .iadd, 1), (1157, .iaload, 1), (1158, .aload_n 0, 1), (1159, .iload_n 3, 1), (1160, .iconst 3, 1), (1161, .iadd, 1), (1162, .iaload, 1), (1163, .aload_n 0, 1), (1164, .iload_n 3, 1), (1165, .iconst 4, 1), (1166, .iadd, 1), (1167, .iaload, 1), (1168, .invokevirtual 126, 3), (1171, .pop, 1), (1172, .aload_n 2, 1), (1173, .aload_n 0, 1), (1174, .iload_n 3, 1), (1175, .iconst 1, 1), (1176, .iadd, 1), (1177, .iaload, 1), (1178, .aload_n 0, 1), (1179, .iload_n 3, 1), (1180, .iconst 2, 1), (1181, .iadd, 1), (1182, .iaload, 1), (1183, .aload_n 0, 1), (1184, .iload_n 3, 1), (1185, .iconst 3, 1), (1186, .iadd, 1), (1187, .iaload, 1), (1188, .aload_n 0, 1), (1189, .iload_n 3, 1), (1190, .iconst 4, 1), (1191, .iadd, 1), (1192, .iaload, 1), (1193, .invokevirtual 129, 3), (1196, .pop, 1), (1197, .goto 52, 3), (1200, .aload_n 1, 1), (1201, .invokevirtual 130, 3), (1204, .pop, 1), (1205, .aload_n 2, 1), (1206, .invokevirtual 133, 3), (1209, .pop, 1), (1210, .goto 39, 3), (1213, .aload_n 1, 1), (1214, .invokevirtual 134, 3), (1217, .pop, 1), (1218, .aload_n 2, 1), (1219, .invokevirtual 137, 3), (1222, .pop, 1), (1223, .goto 26, 3), (1226, .aload_n 1, 1), (1227, .aload_n 0, 1), (1228, .iload_n 3, 1), (1229, .iconst 1, 1), (1230, .iadd, 1)]
theorem rL_law_1149_ok : xRw cL_law rL_law_1149 = true := by decide +kernel
theorem dL_law_1149 : decode cL_law 1149 = .ok (.iload_n 3, 1) := xRw_t rL_law_1149_ok (k := 0) rfl
theorem dL_law_1150 : decode cL_law 1150 = .ok (.iconst 1, 1) := xRw_t rL_law_1149_ok (k := 1) rfl
theorem dL_law_1151 : decode cL_law 1151 = .ok (.iadd, 1) := xRw_t rL_law_1149_ok (k := 2) rfl
theorem dL_law_1152 : decode cL_law 1152 = .ok (.iaload, 1) := xRw_t rL_law_1149_ok (k := 3) rfl
theorem dL_law_1153 : decode cL_law 1153 = .ok (.aload_n 0, 1) := xRw_t rL_law_1149_ok (k := 4) rfl
theorem dL_law_1154 : decode cL_law 1154 = .ok (.iload_n 3, 1) := xRw_t rL_law_1149_ok (k := 5) rfl
theorem dL_law_1155 : decode cL_law 1155 = .ok (.iconst 2, 1) := xRw_t rL_law_1149_ok (k := 6) rfl
theorem dL_law_1156 : decode cL_law 1156 = .ok (.iadd, 1) := xRw_t rL_law_1149_ok (k := 7) rfl
theorem dL_law_1157 : decode cL_law 1157 = .ok (.iaload, 1) := xRw_t rL_law_1149_ok (k := 8) rfl
theorem dL_law_1158 : decode cL_law 1158 = .ok (.aload_n 0, 1) := xRw_t rL_law_1149_ok (k := 9) rfl
theorem dL_law_1159 : decode cL_law 1159 = .ok (.iload_n 3, 1) := xRw_t rL_law_1149_ok (k := 10) rfl
theorem dL_law_1160 : decode cL_law 1160 = .ok (.iconst 3, 1) := xRw_t rL_law_1149_ok (k := 11) rfl
theorem dL_law_1161 : decode cL_law 1161 = .ok (.iadd, 1) := xRw_t rL_law_1149_ok (k := 12) rfl
theorem dL_law_1162 : decode cL_law 1162 = .ok (.iaload, 1) := xRw_t rL_law_1149_ok (k := 13) rfl
theorem dL_law_1163 : decode cL_law 1163 = .ok (.aload_n 0, 1) := xRw_t rL_law_1149_ok (k := 14) rfl
theorem dL_law_1164 : decode cL_law 1164 = .ok (.iload_n 3, 1) := xRw_t rL_law_1149_ok (k := 15) rfl
theorem dL_law_1165 : decode cL_law 1165 = .ok (.iconst 4, 1) := xRw_t rL_law_1149_ok (k := 16) rfl
theorem dL_law_1166 : decode cL_law 1166 = .ok (.iadd, 1) := xRw_t rL_law_1149_ok (k := 17) rfl
theorem dL_law_1167 : decode cL_law 1167 = .ok (.iaload, 1) := xRw_t rL_law_1149_ok (k := 18) rfl
theorem dL_law_1168 : decode cL_law 1168 = .ok (.invokevirtual 126, 3) := xRw_t rL_law_1149_ok (k := 19) rfl
theorem dL_law_1171 : decode cL_law 1171 = .ok (.pop, 1) := xRw_t rL_law_1149_ok (k := 20) rfl
theorem dL_law_1172 : decode cL_law 1172 = .ok (.aload_n 2, 1) := xRw_t rL_law_1149_ok (k := 21) rfl
theorem dL_law_1173 : decode cL_law 1173 = .ok (.aload_n 0, 1) := xRw_t rL_law_1149_ok (k := 22) rfl
theorem dL_law_1174 : decode cL_law 1174 = .ok (.iload_n 3, 1) := xRw_t rL_law_1149_ok (k := 23) rfl
theorem dL_law_1175 : decode cL_law 1175 = .ok (.iconst 1, 1) := xRw_t rL_law_1149_ok (k := 24) rfl
theorem dL_law_1176 : decode cL_law 1176 = .ok (.iadd, 1) := xRw_t rL_law_1149_ok (k := 25) rfl
theorem dL_law_1177 : decode cL_law 1177 = .ok (.iaload, 1) := xRw_t rL_law_1149_ok (k := 26) rfl
theorem dL_law_1178 : decode cL_law 1178 = .ok (.aload_n 0, 1) := xRw_t rL_law_1149_ok (k := 27) rfl
theorem dL_law_1179 : decode cL_law 1179 = .ok (.iload_n 3, 1) := xRw_t rL_law_1149_ok (k := 28) rfl
theorem dL_law_1180 : decode cL_law 1180 = .ok (.iconst 2, 1) := xRw_t rL_law_1149_ok (k := 29) rfl
theorem dL_law_1181 : decode cL_law 1181 = .ok (.iadd, 1) := xRw_t rL_law_1149_ok (k := 30) rfl
theorem dL_law_1182 : decode cL_law 1182 = .ok (.iaload, 1) := xRw_t rL_law_1149_ok (k := 31) rfl
theorem dL_law_1183 : decode cL_law 1183 = .ok (.aload_n 0, 1) := xRw_t rL_law_1149_ok (k := 32) rfl
theorem dL_law_1184 : decode cL_law 1184 = .ok (.iload_n 3, 1) := xRw_t rL_law_1149_ok (k := 33) rfl
theorem dL_law_1185 : decode cL_law 1185 = .ok (.iconst 3, 1) := xRw_t rL_law_1149_ok (k := 34) rfl
theorem dL_law_1186 : decode cL_law 1186 = .ok (.iadd, 1) := xRw_t rL_law_1149_ok (k := 35) rfl
theorem dL_law_1187 : decode cL_law 1187 = .ok (.iaload, 1) := xRw_t rL_law_1149_ok (k := 36) rfl
theorem dL_law_1188 : decode cL_law 1188 = .ok (.aload_n 0, 1) := xRw_t rL_law_1149_ok (k := 37) rfl
theorem dL_law_1189 : decode cL_law 1189 = .ok (.iload_n 3, 1) := xRw_t rL_law_1149_ok (k := 38) rfl
theorem dL_law_1190 : decode cL_law 1190 = .ok (.iconst 4, 1) := xRw_t rL_law_1149_ok (k := 39) rfl
theorem dL_law_1191 : decode cL_law 1191 = .ok (.iadd, 1) := xRw_t rL_law_1149_ok (k := 40) rfl
theorem dL_law_1192 : decode cL_law 1192 = .ok (.iaload, 1) := xRw_t rL_law_1149_ok (k := 41) rfl
theorem dL_law_1193 : decode cL_law 1193 = .ok (.invokevirtual 129, 3) := xRw_t rL_law_1149_ok (k := 42) rfl
theorem dL_law_1196 : decode cL_law 1196 = .ok (.pop, 1) := xRw_t rL_law_1149_ok (k := 43) rfl
theorem dL_law_1197 : decode cL_law 1197 = .ok (.goto 52, 3) := xRw_t rL_law_1149_ok (k := 44) rfl
theorem dL_law_1200 : decode cL_law 1200 = .ok (.aload_n 1, 1) := xRw_t rL_law_1149_ok (k := 45) rfl
theorem dL_law_1201 : decode cL_law 1201 = .ok (.invokevirtual 130, 3) := xRw_t rL_law_1149_ok (k := 46) rfl
theorem dL_law_1204 : decode cL_law 1204 = .ok (.pop, 1) := xRw_t rL_law_1149_ok (k := 47) rfl
theorem dL_law_1205 : decode cL_law 1205 = .ok (.aload_n 2, 1) := xRw_t rL_law_1149_ok (k := 48) rfl
theorem dL_law_1206 : decode cL_law 1206 = .ok (.invokevirtual 133, 3) := xRw_t rL_law_1149_ok (k := 49) rfl
theorem dL_law_1209 : decode cL_law 1209 = .ok (.pop, 1) := xRw_t rL_law_1149_ok (k := 50) rfl
theorem dL_law_1210 : decode cL_law 1210 = .ok (.goto 39, 3) := xRw_t rL_law_1149_ok (k := 51) rfl
theorem dL_law_1213 : decode cL_law 1213 = .ok (.aload_n 1, 1) := xRw_t rL_law_1149_ok (k := 52) rfl
theorem dL_law_1214 : decode cL_law 1214 = .ok (.invokevirtual 134, 3) := xRw_t rL_law_1149_ok (k := 53) rfl
theorem dL_law_1217 : decode cL_law 1217 = .ok (.pop, 1) := xRw_t rL_law_1149_ok (k := 54) rfl
theorem dL_law_1218 : decode cL_law 1218 = .ok (.aload_n 2, 1) := xRw_t rL_law_1149_ok (k := 55) rfl
theorem dL_law_1219 : decode cL_law 1219 = .ok (.invokevirtual 137, 3) := xRw_t rL_law_1149_ok (k := 56) rfl
theorem dL_law_1222 : decode cL_law 1222 = .ok (.pop, 1) := xRw_t rL_law_1149_ok (k := 57) rfl
theorem dL_law_1223 : decode cL_law 1223 = .ok (.goto 26, 3) := xRw_t rL_law_1149_ok (k := 58) rfl
theorem dL_law_1226 : decode cL_law 1226 = .ok (.aload_n 1, 1) := xRw_t rL_law_1149_ok (k := 59) rfl
theorem dL_law_1227 : decode cL_law 1227 = .ok (.aload_n 0, 1) := xRw_t rL_law_1149_ok (k := 60) rfl
theorem dL_law_1228 : decode cL_law 1228 = .ok (.iload_n 3, 1) := xRw_t rL_law_1149_ok (k := 61) rfl
theorem dL_law_1229 : decode cL_law 1229 = .ok (.iconst 1, 1) := xRw_t rL_law_1149_ok (k := 62) rfl
theorem dL_law_1230 : decode cL_law 1230 = .ok (.iadd, 1) := xRw_t rL_law_1149_ok (k := 63) rfl
def rL_law_1231 : List (Nat × Instr × Nat) := [(1231, .iaload, 1), (1232, .invokevirtual 138, 3), (1235, .pop, 1), (1236, .aload_n 2, 1), (1237, .aload_n 0, 1), (1238, .iload_n 3, 1), (1239, .iconst 1, 1), (1240, .iadd, 1), (1241, .iaload, 1), (1242, .invokevirtual 141, 3), (1245, .pop, 1), (1246, .goto 3, 3), (1249, .iinc 3 6, 3), (1252, .goto (-1234), 3), (1255, .iconst 1, 1), (1256, .ireturn, 1)]
theorem rL_law_1231_ok : xRw cL_law rL_law_1231 = true := by decide +kernel
theorem dL_law_1231 : decode cL_law 1231 = .ok (.iaload, 1) := xRw_t rL_law_1231_ok (k := 0) rfl
theorem dL_law_1232 : decode cL_law 1232 = .ok (.invokevirtual 138, 3) := xRw_t rL_law_1231_ok (k := 1) rfl
theorem dL_law_1235 : decode cL_law 1235 = .ok (.pop, 1) := xRw_t rL_law_1231_ok (k := 2) rfl
theorem dL_law_1236 : decode cL_law 1236 = .ok (.aload_n 2, 1) := xRw_t rL_law_1231_ok (k := 3) rfl
theorem dL_law_1237 : decode cL_law 1237 = .ok (.aload_n 0, 1) := xRw_t rL_law_1231_ok (k := 4) rfl
theorem dL_law_1238 : decode cL_law 1238 = .ok (.iload_n 3, 1) := xRw_t rL_law_1231_ok (k := 5) rfl
theorem dL_law_1239 : decode cL_law 1239 = .ok (.iconst 1, 1) := xRw_t rL_law_1231_ok (k := 6) rfl
theorem dL_law_1240 : decode cL_law 1240 = .ok (.iadd, 1) := xRw_t rL_law_1231_ok (k := 7) rfl
theorem dL_law_1241 : decode cL_law 1241 = .ok (.iaload, 1) := xRw_t rL_law_1231_ok (k := 8) rfl
theorem dL_law_1242 : decode cL_law 1242 = .ok (.invokevirtual 141, 3) := xRw_t rL_law_1231_ok (k := 9) rfl
theorem dL_law_1245 : decode cL_law 1245 = .ok (.pop, 1) := xRw_t rL_law_1231_ok (k := 10) rfl
theorem dL_law_1246 : decode cL_law 1246 = .ok (.goto 3, 3) := xRw_t rL_law_1231_ok (k := 11) rfl
theorem dL_law_1249 : decode cL_law 1249 = .ok (.iinc 3 6, 3) := xRw_t rL_law_1231_ok (k := 12) rfl
theorem dL_law_1252 : decode cL_law 1252 = .ok (.goto (-1234), 3) := xRw_t rL_law_1231_ok (k := 13) rfl
theorem dL_law_1255 : decode cL_law 1255 = .ok (.iconst 1, 1) := xRw_t rL_law_1231_ok (k := 14) rfl
theorem dL_law_1256 : decode cL_law 1256 = .ok (.ireturn, 1) := xRw_t rL_law_1231_ok (k := 15) rfl

/-! others on the road, counted one by one -/
def xCt (p : Nat → Bool) : Nat → Nat
  | 0 => 0
  | n + 1 => xCt p n + (if p n then 1 else 0)
theorem xCt_le (p : Nat → Bool) : ∀ n, xCt p n ≤ n
  | 0 => Nat.le_refl _
  | n + 1 => by
    have h := xCt_le p n
    simp only [xCt]
    split <;> omega
theorem xCt_all : ∀ n, xCt (fun _ => true) n = n
  | 0 => rfl
  | n + 1 => by simp only [xCt]; rw [xCt_all n]; rfl
/-- the heart of the i-th -/
def xHv (h c i : Nat) : Nat := i * h + c
theorem xHv_b {h c i : Nat} (hh : h ≤ 30) (hc : c ≤ 30) (hi : i ≤ 9) : xHv h c i ≤ 300 := by
  unfold xHv
  have : i * h ≤ 9 * 30 := Nat.mul_le_mul hi hh
  omega
theorem xHv_e (h c i : Nat) : nI i * nI h + nI c = nI (xHv h c i) := by rw [pk_mul, nI_add]; rfl
theorem xGc {h c l : Nat} (hh : h ≤ 30) (hc : c ≤ 30) (hl : l < 2 ^ 30) : ∀ n, n ≤ 9 → xSm (fun i => if nI l < nI i * nI h + nI c then 1 else 0) n = nI (xCt (fun i => decide (l < xHv h c i)) n)
  | 0, _ => rfl
  | n + 1, hn => by
    have e := xGc hh hc hl n (by omega)
    have b := xHv_b hh hc (show n ≤ 9 by omega)
    have e2 : (if nI l < nI n * nI h + nI c then (1 : Int32) else 0) = nI (if decide (l < xHv h c n) = true then 1 else 0) := by
      rw [xHv_e]
      by_cases q : l < xHv h c n
      · rw [if_pos ((nI_ltI (by omega) (by omega)).mpr q), if_pos (decide_eq_true q)]; rfl
      · rw [if_neg (mt (nI_ltI (by omega) (by omega)).mp q), if_neg (by simpa using q)]; rfl
    simp only [xSm, xCt]
    rw [e, e2, nI_add]
theorem xOt_s {G : Int32 → Int32} {a : Int32} {k c l f c' f' : Nat} (h : xOt G a k = (nI c, nI l, nI f)) (hG : G (nI (l + (1 + f))) = nI c') (hf : f' + c' = c) : xOt G a (k + 1) = (nI c', nI (l + (1 + f)), nI f') := by
  have e1 : nI l + (1 + nI f) = nI (l + (1 + f)) := by rw [show (1 : Int32) = nI 1 from rfl, nI_add, nI_add]
  have e3 : nI c - nI c' = nI f' := by rw [pk_sub (by omega)]; exact congrArg nI (by omega)
  simp only [xOt]
  rw [h]
  dsimp only
  rw [e1, hG, e3]
theorem xAl_f {h c l l' i : Nat} {al : Nat → Bool} (hd : ∀ i, al i = false → xHv h c i ≤ l) (hl : l < l') (ha : al i = false) : decide (l' < xHv h c i) = false := decide_eq_false (by have := hd i ha; omega)

set_option maxHeartbeats 4000000 in
set_option maxRecDepth 100000 in
theorem g_X5_othersE (l : Launch) (D : va_G) (cI cL cZ cC : ClassId) (sz : Nat) (g0 : Nat) (ra : Nat) (wa : Nat) (ta : Nat) (ma : Nat) (pa : Nat) (ba : Nat) (ka : Nat) (fa : Nat) (qa : Nat) (ea : Nat) (za : Nat) (ya : Nat) (kpt : Int32) (mkd : Int32) (tpd : Int32) (at0 : Int32) (wel : Int32) (srt : Int32) (wks : Int32) (rf : Nat → Int32) (a1 : Int32) (a2 : Int32) (a3 : Int32) (a4 : Int32)  : Met l yX5_others wsX5_others ({ frames := 1, cells := 1, slots := 9, locals := 21 } : Room) (wPc D [.ref g0, .int a1, .int a2, .int a3, .int a4] [(g0, .inr (5, [.ref ra, .ref wa, .ref ta, .int kpt, .ref ma, .int mkd, .ref pa, .int tpd, .int at0, .int wel, .ref ba, .ref ka, .int srt, .ref fa, .ref qa, .ref ea, .ref za, .ref ya, .int wks])), (ra, .inl (cI, 7, .inl rf))] (xTy cI cL cZ cC) sz) (va_Qi (fun (r : Int32) (_ : Unit) => r = if qOt a1 a2 a3 a4 = 0 then vOt a1 a2 a3 a4 else qOt a1 a2 a3 a4) (fun (_ : Unit) t => va_P D vwCl [(g0, .inr (5, [.ref ra, .ref wa, .ref ta, .int kpt, .ref ma, .int mkd, .ref pa, .int tpd, .int at0, .int wel, .ref ba, .ref ka, .int srt, .ref fa, .ref qa, .ref ea, .ref za, .ref ya, .int wks])), (ra, .inl (cI, 7, .inl (xRq rf (qOt a1 a2 a3 a4))))] t.heap ∧ va_D (va_A [(g0, .inr (5, [.ref ra, .ref wa, .ref ta, .int kpt, .ref ma, .int mkd, .ref pa, .int tpd, .int at0, .int wel, .ref ba, .ref ka, .int srt, .ref fa, .ref qa, .ref ea, .ref za, .ref ya, .int wks])), (ra, .inl (cI, 7, .inl rf))] sz) [(g0, .inr (5, [.ref ra, .ref wa, .ref ta, .int kpt, .ref ma, .int mkd, .ref pa, .int tpd, .int at0, .int wel, .ref ba, .ref ka, .int srt, .ref fa, .ref qa, .ref ea, .ref za, .ref ya, .int wks])), (ra, .inl (cI, 7, .inl (xRq rf (qOt a1 a2 a3 a4))))]) (va_A [(g0, .inr (5, [.ref ra, .ref wa, .ref ta, .int kpt, .ref ma, .int mkd, .ref pa, .int tpd, .int at0, .int wel, .ref ba, .ref ka, .int srt, .ref fa, .ref qa, .ref ea, .ref za, .ref ya, .int wks])), (ra, .inl (cI, 7, .inl rf))] sz)) 1 9 (va_A [(g0, .inr (5, [.ref ra, .ref wa, .ref ta, .int kpt, .ref ma, .int mkd, .ref pa, .int tpd, .int at0, .int wel, .ref ba, .ref ka, .int srt, .ref fa, .ref qa, .ref ea, .ref za, .ref ya, .int wks])), (ra, .inl (cI, 7, .inl rf))] sz) := by
  refine Met.ofW (cc := cX5_others) (maxL := 11) (ret := (some .int)) (by decide) rfl ?_
  intro p e s m args below meth c s₁ B hml hv
  obtain ⟨rfl, hsz, hP, hK, hD0⟩ := hv
  have hx := B.exec
  have hb := B.bytes
  have hr := B.returns
  have hts := atoms_spec (ws := wsX5_others) B.pre
  have hown : s.vm.findClass RX5 = some m.cls := findClass_of_methodNamed B.named
  have hlocks := B.notSynchronized
  subst hsz
  have hD := hD0.self (sz := s.heap.size)
  generalize hAe : va_A [(g0, .inr (5, [.ref ra, .ref wa, .ref ta, .int kpt, .ref ma, .int mkd, .ref pa, .int tpd, .int at0, .int wel, .ref ba, .ref ka, .int srt, .ref fa, .ref qa, .ref ea, .ref za, .ref ya, .int wks])), (ra, .inl (cI, 7, .inl rf))] s.heap.size = A at hD ⊢
  have hA : ∀ q : Nat, s.heap.size ≤ q → A q := fun q h => by rw [← hAe]; exact Or.inr h
  have hS : va_S A s.heap s.heap [] := va_S.rf
  have hP : va_P D vwCl [(g0, .inr (5, [.ref ra, .ref wa, .ref ta, .int kpt, .ref ma, .int mkd, .ref pa, .int tpd, .int at0, .int wel, .ref ba, .ref ka, .int srt, .ref fa, .ref qa, .ref ea, .ref za, .ref ya, .int wks])), (ra, .inl (cI, 7, .inl rf))] s.heap := hP
  have hl := lv_entry ([.ref g0, .int a1, .int a2, .int a3, .int a4]) (n := 11) (Nat.le_of_ble_eq_true rfl)
  rw [lg_entry_eq]
  generalize (lg_sl ([.ref g0, .int a1, .int a2, .int a3, .int a4]) ++ List.replicate (11 - (lg_sl ([.ref g0, .int a1, .int a2, .int a3, .int a4])).length) Slot.unset).toArray = ls at hl ⊢
  have hl : lv_has ls 11 [(0, .ref g0), (1, .int a1), (2, .int a2), (3, .int a3), (4, .int a4)] := hl
  refine lv_iload_n hx hb dX5_others_0 rfl (lv_at hl 1 rfl) ?_
  refine lv_iconst (v := 1) hx hb dX5_others_1 (by decide) ?_
  refine lv_icmp_lt (tgt := 18) hx hb dX5_others_2 (by decide) (fun c_1 => ?_) (fun c_1 => ?_)
  · refine lv_aload_n hx hb dX5_others_18 rfl (lv_at hl 0 rfl) ?_
    refine lv_bipush (v := -4) hx hb dX5_others_19 (by decide) ?_
    have hPc := hP.sub (ws' := [(g0, .inr (5, [.ref ra, .ref wa, .ref ta, .int kpt, .ref ma, .int mkd, .ref pa, .int tpd, .int at0, .int wel, .ref ba, .ref ka, .int srt, .ref fa, .ref qa, .ref ea, .ref za, .ref ya, .int wks])), (ra, .inl (cI, 7, .inl rf))]) [0, 1] rfl
    have hDc := hD.sub (ws' := [(g0, .inr (5, [.ref ra, .ref wa, .ref ta, .int kpt, .ref ma, .int mkd, .ref pa, .int tpd, .int at0, .int wel, .ref ba, .ref ka, .int srt, .ref fa, .ref qa, .ref ea, .ref za, .ref ya, .int wks])), (ra, .inl (cI, 7, .inl rf))]) [0, 1] (by decide) rfl
    have hFc := va_free (wc := [(g0, .inr (5, [.ref ra, .ref wa, .ref ta, .int kpt, .ref ma, .int mkd, .ref pa, .int tpd, .int at0, .int wel, .ref ba, .ref ka, .int srt, .ref fa, .ref qa, .ref ea, .ref za, .ref ya, .int wks])), (ra, .inl (cI, 7, .inl rf))]) hD hS hA [0, 1] rfl
    refine va_calli (va_runV (As := [.int (-4)]) (rest := []) ⟨hx, hb, hml, hown, hts⟩ (g_X5_no l D cI cL cZ cC _ g0 ra wa ta ma pa ba ka fa qa ea za ya kpt mkd tpd at0 wel srt wks rf (-4) (by first | assumption | decide +kernel) (by first | assumption | decide +kernel)) (cwV 1 hts gX5_others_X5_no rfl rfl rfl (by decide +kernel) ⟨Nat.le_of_ble_eq_true rfl, Nat.le_of_ble_eq_true rfl⟩) ⟨wPc_bl, va_recv hK hPc (ci := 5) (q0 := 0) rfl rfl, wPc_use hPc hK hDc⟩ rfl rfl hl.1 rfl (lv_room (Nat.le_of_ble_eq_true rfl)) dX5_others_21 ⟨Nat.le_of_ble_eq_true rfl, Nat.le_of_ble_eq_true rfl⟩) hS (fun q _ h => hFc q h) hFc (fun r_2 u_2 t H1 locs ht hvm hw hB hz1 hk1 hS => ?_)
    obtain ⟨hP1, hD1⟩ := hB
    rw [ht] at hP1
    obtain ⟨hP, hD⟩ := va_join (wr := []) (w1 := [(g0, .inr (5, [.ref ra, .ref wa, .ref ta, .int kpt, .ref ma, .int mkd, .ref pa, .int tpd, .int at0, .int wel, .ref ba, .ref ka, .int srt, .ref fa, .ref qa, .ref ea, .ref za, .ref ya, .int wks])), (ra, .inl (cI, 7, .inl (xRf rf (-4))))]) hP hD [0, 1] [] rfl rfl (by decide) (by decide) hk1 hFc hP1 hD1
    generalize H1 = H at hP hS ⊢
    have hP : va_P D vwCl [(g0, .inr (5, [.ref ra, .ref wa, .ref ta, .int kpt, .ref ma, .int mkd, .ref pa, .int tpd, .int at0, .int wel, .ref ba, .ref ka, .int srt, .ref fa, .ref qa, .ref ea, .ref za, .ref ya, .int wks])), (ra, .inl (cI, 7, .inl (xRf rf (-4))))] H := hP
    have hD : va_D A [(g0, .inr (5, [.ref ra, .ref wa, .ref ta, .int kpt, .ref ma, .int mkd, .ref pa, .int tpd, .int at0, .int wel, .ref ba, .ref ka, .int srt, .ref fa, .ref qa, .ref ea, .ref za, .ref ya, .int wks])), (ra, .inl (cI, 7, .inl (xRf rf (-4))))] := hD
    obtain rfl : ((-4) : Int32) = r_2 := Eq.symm hw
    have hP9 := hP.sub (ws' := [(g0, .inr (5, [.ref ra, .ref wa, .ref ta, .int kpt, .ref ma, .int mkd, .ref pa, .int tpd, .int at0, .int wel, .ref ba, .ref ka, .int srt, .ref fa, .ref qa, .ref ea, .ref za, .ref ya, .int wks])), (ra, .inl (cI, 7, .inl (xRf rf (-4))))]) [0, 1] rfl
    have hD9 := hD.sub (ws' := [(g0, .inr (5, [.ref ra, .ref wa, .ref ta, .int kpt, .ref ma, .int mkd, .ref pa, .int tpd, .int at0, .int wel, .ref ba, .ref ka, .int srt, .ref fa, .ref qa, .ref ea, .ref za, .ref ya, .int wks])), (ra, .inl (cI, 7, .inl (xRf rf (-4))))]) [0, 1] (by decide) rfl
    have hE9 : ([(g0, .inr (5, [.ref ra, .ref wa, .ref ta, .int kpt, .ref ma, .int mkd, .ref pa, .int tpd, .int at0, .int wel, .ref ba, .ref ka, .int srt, .ref fa, .ref qa, .ref ea, .ref za, .ref ya, .int wks])), (ra, .inl (cI, 7, .inl (xRf rf (-4))))] : va_W) = [(g0, .inr (5, [.ref ra, .ref wa, .ref ta, .int kpt, .ref ma, .int mkd, .ref pa, .int tpd, .int at0, .int wel, .ref ba, .ref ka, .int srt, .ref fa, .ref qa, .ref ea, .ref za, .ref ya, .int wks])), (ra, .inl (cI, 7, .inl (xRq rf (qOt a1 a2 a3 a4))))] := by simp [xRq, qOt, c_1]
    refine W.widen (k := 1) (n := 9) (Nat.le_of_ble_eq_true rfl) (Nat.le_of_ble_eq_true rfl) ?_
    exact W.iret (v := -4) hx hb hr (fun t ht hW => ⟨⟨_, (), rfl, by simp [qOt, c_1], by rw [ht]; exact hE9 ▸ hP9, hE9 ▸ hD9⟩, hS.F ht⟩) hS.2.2 dX5_others_24
  · refine lv_iload_n hx hb dX5_others_5 rfl (lv_at hl 2 rfl) ?_
    refine lv_if_lt (tgt := 18) hx hb dX5_others_6 (by decide) (fun c_3 => ?_) (fun c_3 => ?_)
    · refine lv_aload_n hx hb dX5_others_18 rfl (lv_at hl 0 rfl) ?_
      refine lv_bipush (v := -4) hx hb dX5_others_19 (by decide) ?_
      have hPc := hP.sub (ws' := [(g0, .inr (5, [.ref ra, .ref wa, .ref ta, .int kpt, .ref ma, .int mkd, .ref pa, .int tpd, .int at0, .int wel, .ref ba, .ref ka, .int srt, .ref fa, .ref qa, .ref ea, .ref za, .ref ya, .int wks])), (ra, .inl (cI, 7, .inl rf))]) [0, 1] rfl
      have hDc := hD.sub (ws' := [(g0, .inr (5, [.ref ra, .ref wa, .ref ta, .int kpt, .ref ma, .int mkd, .ref pa, .int tpd, .int at0, .int wel, .ref ba, .ref ka, .int srt, .ref fa, .ref qa, .ref ea, .ref za, .ref ya, .int wks])), (ra, .inl (cI, 7, .inl rf))]) [0, 1] (by decide) rfl
      have hFc := va_free (wc := [(g0, .inr (5, [.ref ra, .ref wa, .ref ta, .int kpt, .ref ma, .int mkd, .ref pa, .int tpd, .int at0, .int wel, .ref ba, .ref ka, .int srt, .ref fa, .ref qa, .ref ea, .ref za, .ref ya, .int wks])), (ra, .inl (cI, 7, .inl rf))]) hD hS hA [0, 1] rfl
      refine va_calli (va_runV (As := [.int (-4)]) (rest := []) ⟨hx, hb, hml, hown, hts⟩ (g_X5_no l D cI cL cZ cC _ g0 ra wa ta ma pa ba ka fa qa ea za ya kpt mkd tpd at0 wel srt wks rf (-4) (by first | assumption | decide +kernel) (by first | assumption | decide +kernel)) (cwV 1 hts gX5_others_X5_no rfl rfl rfl (by decide +kernel) ⟨Nat.le_of_ble_eq_true rfl, Nat.le_of_ble_eq_true rfl⟩) ⟨wPc_bl, va_recv hK hPc (ci := 5) (q0 := 0) rfl rfl, wPc_use hPc hK hDc⟩ rfl rfl hl.1 rfl (lv_room (Nat.le_of_ble_eq_true rfl)) dX5_others_21 ⟨Nat.le_of_ble_eq_true rfl, Nat.le_of_ble_eq_true rfl⟩) hS (fun q _ h => hFc q h) hFc (fun r_4 u_4 t H1 locs ht hvm hw hB hz1 hk1 hS => ?_)
      obtain ⟨hP1, hD1⟩ := hB
      rw [ht] at hP1
      obtain ⟨hP, hD⟩ := va_join (wr := []) (w1 := [(g0, .inr (5, [.ref ra, .ref wa, .ref ta, .int kpt, .ref ma, .int mkd, .ref pa, .int tpd, .int at0, .int wel, .ref ba, .ref ka, .int srt, .ref fa, .ref qa, .ref ea, .ref za, .ref ya, .int wks])), (ra, .inl (cI, 7, .inl (xRf rf (-4))))]) hP hD [0, 1] [] rfl rfl (by decide) (by decide) hk1 hFc hP1 hD1
      generalize H1 = H at hP hS ⊢
      have hP : va_P D vwCl [(g0, .inr (5, [.ref ra, .ref wa, .ref ta, .int kpt, .ref ma, .int mkd, .ref pa, .int tpd, .int at0, .int wel, .ref ba, .ref ka, .int srt, .ref fa, .ref qa, .ref ea, .ref za, .ref ya, .int wks])), (ra, .inl (cI, 7, .inl (xRf rf (-4))))] H := hP
      have hD : va_D A [(g0, .inr (5, [.ref ra, .ref wa, .ref ta, .int kpt, .ref ma, .int mkd, .ref pa, .int tpd, .int at0, .int wel, .ref ba, .ref ka, .int srt, .ref fa, .ref qa, .ref ea, .ref za, .ref ya, .int wks])), (ra, .inl (cI, 7, .inl (xRf rf (-4))))] := hD
      obtain rfl : ((-4) : Int32) = r_4 := Eq.symm hw
      have hP9 := hP.sub (ws' := [(g0, .inr (5, [.ref ra, .ref wa, .ref ta, .int kpt, .ref ma, .int mkd, .ref pa, .int tpd, .int at0, .int wel, .ref ba, .ref ka, .int srt, .ref fa, .ref qa, .ref ea, .ref za, .ref ya, .int wks])), (ra, .inl (cI, 7, .inl (xRf rf (-4))))]) [0, 1] rfl
      have hD9 := hD.sub (ws' := [(g0, .inr (5, [.ref ra, .ref wa, .ref ta, .int kpt, .ref ma, .int mkd, .ref pa, .int tpd, .int at0, .int wel, .ref ba, .ref ka, .int srt, .ref fa, .ref qa, .ref ea, .ref za, .ref ya, .int wks])), (ra, .inl (cI, 7, .inl (xRf rf (-4))))]) [0, 1] (by decide) rfl
      have hE9 : ([(g0, .inr (5, [.ref ra, .ref wa, .ref ta, .int kpt, .ref ma, .int mkd, .ref pa, .int tpd, .int at0, .int wel, .ref ba, .ref ka, .int srt, .ref fa, .ref qa, .ref ea, .ref za, .ref ya, .int wks])), (ra, .inl (cI, 7, .inl (xRf rf (-4))))] : va_W) = [(g0, .inr (5, [.ref ra, .ref wa, .ref ta, .int kpt, .ref ma, .int mkd, .ref pa, .int tpd, .int at0, .int wel, .ref ba, .ref ka, .int srt, .ref fa, .ref qa, .ref ea, .ref za, .ref ya, .int wks])), (ra, .inl (cI, 7, .inl (xRq rf (qOt a1 a2 a3 a4))))] := by simp [xRq, qOt, c_1, c_3]
      refine W.widen (k := 1) (n := 9) (Nat.le_of_ble_eq_true rfl) (Nat.le_of_ble_eq_true rfl) ?_
      exact W.iret (v := -4) hx hb hr (fun t ht hW => ⟨⟨_, (), rfl, by simp [qOt, c_1, c_3], by rw [ht]; exact hE9 ▸ hP9, hE9 ▸ hD9⟩, hS.F ht⟩) hS.2.2 dX5_others_24
    · refine lv_iload_n hx hb dX5_others_9 rfl (lv_at hl 3 rfl) ?_
      refine lv_if_lt (tgt := 18) hx hb dX5_others_10 (by decide) (fun c_5 => ?_) (fun c_5 => ?_)
      · refine lv_aload_n hx hb dX5_others_18 rfl (lv_at hl 0 rfl) ?_
        refine lv_bipush (v := -4) hx hb dX5_others_19 (by decide) ?_
        have hPc := hP.sub (ws' := [(g0, .inr (5, [.ref ra, .ref wa, .ref ta, .int kpt, .ref ma, .int mkd, .ref pa, .int tpd, .int at0, .int wel, .ref ba, .ref ka, .int srt, .ref fa, .ref qa, .ref ea, .ref za, .ref ya, .int wks])), (ra, .inl (cI, 7, .inl rf))]) [0, 1] rfl
        have hDc := hD.sub (ws' := [(g0, .inr (5, [.ref ra, .ref wa, .ref ta, .int kpt, .ref ma, .int mkd, .ref pa, .int tpd, .int at0, .int wel, .ref ba, .ref ka, .int srt, .ref fa, .ref qa, .ref ea, .ref za, .ref ya, .int wks])), (ra, .inl (cI, 7, .inl rf))]) [0, 1] (by decide) rfl
        have hFc := va_free (wc := [(g0, .inr (5, [.ref ra, .ref wa, .ref ta, .int kpt, .ref ma, .int mkd, .ref pa, .int tpd, .int at0, .int wel, .ref ba, .ref ka, .int srt, .ref fa, .ref qa, .ref ea, .ref za, .ref ya, .int wks])), (ra, .inl (cI, 7, .inl rf))]) hD hS hA [0, 1] rfl
        refine va_calli (va_runV (As := [.int (-4)]) (rest := []) ⟨hx, hb, hml, hown, hts⟩ (g_X5_no l D cI cL cZ cC _ g0 ra wa ta ma pa ba ka fa qa ea za ya kpt mkd tpd at0 wel srt wks rf (-4) (by first | assumption | decide +kernel) (by first | assumption | decide +kernel)) (cwV 1 hts gX5_others_X5_no rfl rfl rfl (by decide +kernel) ⟨Nat.le_of_ble_eq_true rfl, Nat.le_of_ble_eq_true rfl⟩) ⟨wPc_bl, va_recv hK hPc (ci := 5) (q0 := 0) rfl rfl, wPc_use hPc hK hDc⟩ rfl rfl hl.1 rfl (lv_room (Nat.le_of_ble_eq_true rfl)) dX5_others_21 ⟨Nat.le_of_ble_eq_true rfl, Nat.le_of_ble_eq_true rfl⟩) hS (fun q _ h => hFc q h) hFc (fun r_6 u_6 t H1 locs ht hvm hw hB hz1 hk1 hS => ?_)
        obtain ⟨hP1, hD1⟩ := hB
        rw [ht] at hP1
        obtain ⟨hP, hD⟩ := va_join (wr := []) (w1 := [(g0, .inr (5, [.ref ra, .ref wa, .ref ta, .int kpt, .ref ma, .int mkd, .ref pa, .int tpd, .int at0, .int wel, .ref ba, .ref ka, .int srt, .ref fa, .ref qa, .ref ea, .ref za, .ref ya, .int wks])), (ra, .inl (cI, 7, .inl (xRf rf (-4))))]) hP hD [0, 1] [] rfl rfl (by decide) (by decide) hk1 hFc hP1 hD1
        generalize H1 = H at hP hS ⊢
        have hP : va_P D vwCl [(g0, .inr (5, [.ref ra, .ref wa, .ref ta, .int kpt, .ref ma, .int mkd, .ref pa, .int tpd, .int at0, .int wel, .ref ba, .ref ka, .int srt, .ref fa, .ref qa, .ref ea, .ref za, .ref ya, .int wks])), (ra, .inl (cI, 7, .inl (xRf rf (-4))))] H := hP
        have hD : va_D A [(g0, .inr (5, [.ref ra, .ref wa, .ref ta, .int kpt, .ref ma, .int mkd, .ref pa, .int tpd, .int at0, .int wel, .ref ba, .ref ka, .int srt, .ref fa, .ref qa, .ref ea, .ref za, .ref ya, .int wks])), (ra, .inl (cI, 7, .inl (xRf rf (-4))))] := hD
        obtain rfl : ((-4) : Int32) = r_6 := Eq.symm hw
        have hP9 := hP.sub (ws' := [(g0, .inr (5, [.ref ra, .ref wa, .ref ta, .int kpt, .ref ma, .int mkd, .ref pa, .int tpd, .int at0, .int wel, .ref ba, .ref ka, .int srt, .ref fa, .ref qa, .ref ea, .ref za, .ref ya, .int wks])), (ra, .inl (cI, 7, .inl (xRf rf (-4))))]) [0, 1] rfl
        have hD9 := hD.sub (ws' := [(g0, .inr (5, [.ref ra, .ref wa, .ref ta, .int kpt, .ref ma, .int mkd, .ref pa, .int tpd, .int at0, .int wel, .ref ba, .ref ka, .int srt, .ref fa, .ref qa, .ref ea, .ref za, .ref ya, .int wks])), (ra, .inl (cI, 7, .inl (xRf rf (-4))))]) [0, 1] (by decide) rfl
        have hE9 : ([(g0, .inr (5, [.ref ra, .ref wa, .ref ta, .int kpt, .ref ma, .int mkd, .ref pa, .int tpd, .int at0, .int wel, .ref ba, .ref ka, .int srt, .ref fa, .ref qa, .ref ea, .ref za, .ref ya, .int wks])), (ra, .inl (cI, 7, .inl (xRf rf (-4))))] : va_W) = [(g0, .inr (5, [.ref ra, .ref wa, .ref ta, .int kpt, .ref ma, .int mkd, .ref pa, .int tpd, .int at0, .int wel, .ref ba, .ref ka, .int srt, .ref fa, .ref qa, .ref ea, .ref za, .ref ya, .int wks])), (ra, .inl (cI, 7, .inl (xRq rf (qOt a1 a2 a3 a4))))] := by simp [xRq, qOt, c_1, c_3, c_5]
        refine W.widen (k := 1) (n := 9) (Nat.le_of_ble_eq_true rfl) (Nat.le_of_ble_eq_true rfl) ?_
        exact W.iret (v := -4) hx hb hr (fun t ht hW => ⟨⟨_, (), rfl, by simp [qOt, c_1, c_3, c_5], by rw [ht]; exact hE9 ▸ hP9, hE9 ▸ hD9⟩, hS.F ht⟩) hS.2.2 dX5_others_24
      · refine lv_iload hx hb dX5_others_13 (lv_at hl 4 rfl) ?_
        refine lv_if_ge (tgt := 25) hx hb dX5_others_15 (by decide) (fun c_7 => ?_) (fun c_7 => ?_)
        · refine lv_iload_n hx hb dX5_others_25 rfl (lv_at hl 1 rfl) ?_
          refine lv_bipush (v := 9) hx hb dX5_others_26 (by decide) ?_
          refine lv_icmp_gt (tgt := 50) hx hb dX5_others_28 (by decide) (fun c_8 => ?_) (fun c_8 => ?_)
          · refine lv_aload_n hx hb dX5_others_50 rfl (lv_at hl 0 rfl) ?_
            refine lv_bipush (v := -6) hx hb dX5_others_51 (by decide) ?_
            have hPc := hP.sub (ws' := [(g0, .inr (5, [.ref ra, .ref wa, .ref ta, .int kpt, .ref ma, .int mkd, .ref pa, .int tpd, .int at0, .int wel, .ref ba, .ref ka, .int srt, .ref fa, .ref qa, .ref ea, .ref za, .ref ya, .int wks])), (ra, .inl (cI, 7, .inl rf))]) [0, 1] rfl
            have hDc := hD.sub (ws' := [(g0, .inr (5, [.ref ra, .ref wa, .ref ta, .int kpt, .ref ma, .int mkd, .ref pa, .int tpd, .int at0, .int wel, .ref ba, .ref ka, .int srt, .ref fa, .ref qa, .ref ea, .ref za, .ref ya, .int wks])), (ra, .inl (cI, 7, .inl rf))]) [0, 1] (by decide) rfl
            have hFc := va_free (wc := [(g0, .inr (5, [.ref ra, .ref wa, .ref ta, .int kpt, .ref ma, .int mkd, .ref pa, .int tpd, .int at0, .int wel, .ref ba, .ref ka, .int srt, .ref fa, .ref qa, .ref ea, .ref za, .ref ya, .int wks])), (ra, .inl (cI, 7, .inl rf))]) hD hS hA [0, 1] rfl
            refine va_calli (va_runV (As := [.int (-6)]) (rest := []) ⟨hx, hb, hml, hown, hts⟩ (g_X5_no l D cI cL cZ cC _ g0 ra wa ta ma pa ba ka fa qa ea za ya kpt mkd tpd at0 wel srt wks rf (-6) (by first | assumption | decide +kernel) (by first | assumption | decide +kernel)) (cwV 1 hts gX5_others_X5_no rfl rfl rfl (by decide +kernel) ⟨Nat.le_of_ble_eq_true rfl, Nat.le_of_ble_eq_true rfl⟩) ⟨wPc_bl, va_recv hK hPc (ci := 5) (q0 := 0) rfl rfl, wPc_use hPc hK hDc⟩ rfl rfl hl.1 rfl (lv_room (Nat.le_of_ble_eq_true rfl)) dX5_others_53 ⟨Nat.le_of_ble_eq_true rfl, Nat.le_of_ble_eq_true rfl⟩) hS (fun q _ h => hFc q h) hFc (fun r_9 u_9 t H1 locs ht hvm hw hB hz1 hk1 hS => ?_)
            obtain ⟨hP1, hD1⟩ := hB
            rw [ht] at hP1
            obtain ⟨hP, hD⟩ := va_join (wr := []) (w1 := [(g0, .inr (5, [.ref ra, .ref wa, .ref ta, .int kpt, .ref ma, .int mkd, .ref pa, .int tpd, .int at0, .int wel, .ref ba, .ref ka, .int srt, .ref fa, .ref qa, .ref ea, .ref za, .ref ya, .int wks])), (ra, .inl (cI, 7, .inl (xRf rf (-6))))]) hP hD [0, 1] [] rfl rfl (by decide) (by decide) hk1 hFc hP1 hD1
            generalize H1 = H at hP hS ⊢
            have hP : va_P D vwCl [(g0, .inr (5, [.ref ra, .ref wa, .ref ta, .int kpt, .ref ma, .int mkd, .ref pa, .int tpd, .int at0, .int wel, .ref ba, .ref ka, .int srt, .ref fa, .ref qa, .ref ea, .ref za, .ref ya, .int wks])), (ra, .inl (cI, 7, .inl (xRf rf (-6))))] H := hP
            have hD : va_D A [(g0, .inr (5, [.ref ra, .ref wa, .ref ta, .int kpt, .ref ma, .int mkd, .ref pa, .int tpd, .int at0, .int wel, .ref ba, .ref ka, .int srt, .ref fa, .ref qa, .ref ea, .ref za, .ref ya, .int wks])), (ra, .inl (cI, 7, .inl (xRf rf (-6))))] := hD
            obtain rfl : ((-6) : Int32) = r_9 := Eq.symm hw
            have hP9 := hP.sub (ws' := [(g0, .inr (5, [.ref ra, .ref wa, .ref ta, .int kpt, .ref ma, .int mkd, .ref pa, .int tpd, .int at0, .int wel, .ref ba, .ref ka, .int srt, .ref fa, .ref qa, .ref ea, .ref za, .ref ya, .int wks])), (ra, .inl (cI, 7, .inl (xRf rf (-6))))]) [0, 1] rfl
            have hD9 := hD.sub (ws' := [(g0, .inr (5, [.ref ra, .ref wa, .ref ta, .int kpt, .ref ma, .int mkd, .ref pa, .int tpd, .int at0, .int wel, .ref ba, .ref ka, .int srt, .ref fa, .ref qa, .ref ea, .ref za, .ref ya, .int wks])), (ra, .inl (cI, 7, .inl (xRf rf (-6))))]) [0, 1] (by decide) rfl
            have hE9 : ([(g0, .inr (5, [.ref ra, .ref wa, .ref ta, .int kpt, .ref ma, .int mkd, .ref pa, .int tpd, .int at0, .int wel, .ref ba, .ref ka, .int srt, .ref fa, .ref qa, .ref ea, .ref za, .ref ya, .int wks])), (ra, .inl (cI, 7, .inl (xRf rf (-6))))] : va_W) = [(g0, .inr (5, [.ref ra, .ref wa, .ref ta, .int kpt, .ref ma, .int mkd, .ref pa, .int tpd, .int at0, .int wel, .ref ba, .ref ka, .int srt, .ref fa, .ref qa, .ref ea, .ref za, .ref ya, .int wks])), (ra, .inl (cI, 7, .inl (xRq rf (qOt a1 a2 a3 a4))))] := by simp [xRq, qOt, c_1, c_3, c_5, (Int32.not_lt.mpr c_7), c_8]
            refine W.widen (k := 1) (n := 9) (Nat.le_of_ble_eq_true rfl) (Nat.le_of_ble_eq_true rfl) ?_
            exact W.iret (v := -6) hx hb hr (fun t ht hW => ⟨⟨_, (), rfl, by simp [qOt, c_1, c_3, c_5, (Int32.not_lt.mpr c_7), c_8], by rw [ht]; exact hE9 ▸ hP9, hE9 ▸ hD9⟩, hS.F ht⟩) hS.2.2 dX5_others_56
          · refine lv_iload_n hx hb dX5_others_31 rfl (lv_at hl 2 rfl) ?_
            refine lv_bipush (v := 30) hx hb dX5_others_32 (by decide) ?_
            refine lv_icmp_gt (tgt := 50) hx hb dX5_others_34 (by decide) (fun c_10 => ?_) (fun c_10 => ?_)
            · refine lv_aload_n hx hb dX5_others_50 rfl (lv_at hl 0 rfl) ?_
              refine lv_bipush (v := -6) hx hb dX5_others_51 (by decide) ?_
              have hPc := hP.sub (ws' := [(g0, .inr (5, [.ref ra, .ref wa, .ref ta, .int kpt, .ref ma, .int mkd, .ref pa, .int tpd, .int at0, .int wel, .ref ba, .ref ka, .int srt, .ref fa, .ref qa, .ref ea, .ref za, .ref ya, .int wks])), (ra, .inl (cI, 7, .inl rf))]) [0, 1] rfl
              have hDc := hD.sub (ws' := [(g0, .inr (5, [.ref ra, .ref wa, .ref ta, .int kpt, .ref ma, .int mkd, .ref pa, .int tpd, .int at0, .int wel, .ref ba, .ref ka, .int srt, .ref fa, .ref qa, .ref ea, .ref za, .ref ya, .int wks])), (ra, .inl (cI, 7, .inl rf))]) [0, 1] (by decide) rfl
              have hFc := va_free (wc := [(g0, .inr (5, [.ref ra, .ref wa, .ref ta, .int kpt, .ref ma, .int mkd, .ref pa, .int tpd, .int at0, .int wel, .ref ba, .ref ka, .int srt, .ref fa, .ref qa, .ref ea, .ref za, .ref ya, .int wks])), (ra, .inl (cI, 7, .inl rf))]) hD hS hA [0, 1] rfl
              refine va_calli (va_runV (As := [.int (-6)]) (rest := []) ⟨hx, hb, hml, hown, hts⟩ (g_X5_no l D cI cL cZ cC _ g0 ra wa ta ma pa ba ka fa qa ea za ya kpt mkd tpd at0 wel srt wks rf (-6) (by first | assumption | decide +kernel) (by first | assumption | decide +kernel)) (cwV 1 hts gX5_others_X5_no rfl rfl rfl (by decide +kernel) ⟨Nat.le_of_ble_eq_true rfl, Nat.le_of_ble_eq_true rfl⟩) ⟨wPc_bl, va_recv hK hPc (ci := 5) (q0 := 0) rfl rfl, wPc_use hPc hK hDc⟩ rfl rfl hl.1 rfl (lv_room (Nat.le_of_ble_eq_true rfl)) dX5_others_53 ⟨Nat.le_of_ble_eq_true rfl, Nat.le_of_ble_eq_true rfl⟩) hS (fun q _ h => hFc q h) hFc (fun r_11 u_11 t H1 locs ht hvm hw hB hz1 hk1 hS => ?_)
              obtain ⟨hP1, hD1⟩ := hB
              rw [ht] at hP1
              obtain ⟨hP, hD⟩ := va_join (wr := []) (w1 := [(g0, .inr (5, [.ref ra, .ref wa, .ref ta, .int kpt, .ref ma, .int mkd, .ref pa, .int tpd, .int at0, .int wel, .ref ba, .ref ka, .int srt, .ref fa, .ref qa, .ref ea, .ref za, .ref ya, .int wks])), (ra, .inl (cI, 7, .inl (xRf rf (-6))))]) hP hD [0, 1] [] rfl rfl (by decide) (by decide) hk1 hFc hP1 hD1
              generalize H1 = H at hP hS ⊢
              have hP : va_P D vwCl [(g0, .inr (5, [.ref ra, .ref wa, .ref ta, .int kpt, .ref ma, .int mkd, .ref pa, .int tpd, .int at0, .int wel, .ref ba, .ref ka, .int srt, .ref fa, .ref qa, .ref ea, .ref za, .ref ya, .int wks])), (ra, .inl (cI, 7, .inl (xRf rf (-6))))] H := hP
              have hD : va_D A [(g0, .inr (5, [.ref ra, .ref wa, .ref ta, .int kpt, .ref ma, .int mkd, .ref pa, .int tpd, .int at0, .int wel, .ref ba, .ref ka, .int srt, .ref fa, .ref qa, .ref ea, .ref za, .ref ya, .int wks])), (ra, .inl (cI, 7, .inl (xRf rf (-6))))] := hD
              obtain rfl : ((-6) : Int32) = r_11 := Eq.symm hw
              have hP9 := hP.sub (ws' := [(g0, .inr (5, [.ref ra, .ref wa, .ref ta, .int kpt, .ref ma, .int mkd, .ref pa, .int tpd, .int at0, .int wel, .ref ba, .ref ka, .int srt, .ref fa, .ref qa, .ref ea, .ref za, .ref ya, .int wks])), (ra, .inl (cI, 7, .inl (xRf rf (-6))))]) [0, 1] rfl
              have hD9 := hD.sub (ws' := [(g0, .inr (5, [.ref ra, .ref wa, .ref ta, .int kpt, .ref ma, .int mkd, .ref pa, .int tpd, .int at0, .int wel, .ref ba, .ref ka, .int srt, .ref fa, .ref qa, .ref ea, .ref za, .ref ya, .int wks])), (ra, .inl (cI, 7, .inl (xRf rf (-6))))]) [0, 1] (by decide) rfl
              have hE9 : ([(g0, .inr (5, [.ref ra, .ref wa, .ref ta, .int kpt, .ref ma, .int mkd, .ref pa, .int tpd, .int at0, .int wel, .ref ba, .ref ka, .int srt, .ref fa, .ref qa, .ref ea, .ref za, .ref ya, .int wks])), (ra, .inl (cI, 7, .inl (xRf rf (-6))))] : va_W) = [(g0, .inr (5, [.ref ra, .ref wa, .ref ta, .int kpt, .ref ma, .int mkd, .ref pa, .int tpd, .int at0, .int wel, .ref ba, .ref ka, .int srt, .ref fa, .ref qa, .ref ea, .ref za, .ref ya, .int wks])), (ra, .inl (cI, 7, .inl (xRq rf (qOt a1 a2 a3 a4))))] := by simp [xRq, qOt, c_1, c_3, c_5, (Int32.not_lt.mpr c_7), c_8, c_10]
              refine W.widen (k := 1) (n := 9) (Nat.le_of_ble_eq_true rfl) (Nat.le_of_ble_eq_true rfl) ?_
              exact W.iret (v := -6) hx hb hr (fun t ht hW => ⟨⟨_, (), rfl, by simp [qOt, c_1, c_3, c_5, (Int32.not_lt.mpr c_7), c_8, c_10], by rw [ht]; exact hE9 ▸ hP9, hE9 ▸ hD9⟩, hS.F ht⟩) hS.2.2 dX5_others_56
            · refine lv_iload_n hx hb dX5_others_37 rfl (lv_at hl 3 rfl) ?_
              refine lv_bipush (v := 30) hx hb dX5_others_38 (by decide) ?_
              refine lv_icmp_gt (tgt := 50) hx hb dX5_others_40 (by decide) (fun c_12 => ?_) (fun c_12 => ?_)
              · refine lv_aload_n hx hb dX5_others_50 rfl (lv_at hl 0 rfl) ?_
                refine lv_bipush (v := -6) hx hb dX5_others_51 (by decide) ?_
                have hPc := hP.sub (ws' := [(g0, .inr (5, [.ref ra, .ref wa, .ref ta, .int kpt, .ref ma, .int mkd, .ref pa, .int tpd, .int at0, .int wel, .ref ba, .ref ka, .int srt, .ref fa, .ref qa, .ref ea, .ref za, .ref ya, .int wks])), (ra, .inl (cI, 7, .inl rf))]) [0, 1] rfl
                have hDc := hD.sub (ws' := [(g0, .inr (5, [.ref ra, .ref wa, .ref ta, .int kpt, .ref ma, .int mkd, .ref pa, .int tpd, .int at0, .int wel, .ref ba, .ref ka, .int srt, .ref fa, .ref qa, .ref ea, .ref za, .ref ya, .int wks])), (ra, .inl (cI, 7, .inl rf))]) [0, 1] (by decide) rfl
                have hFc := va_free (wc := [(g0, .inr (5, [.ref ra, .ref wa, .ref ta, .int kpt, .ref ma, .int mkd, .ref pa, .int tpd, .int at0, .int wel, .ref ba, .ref ka, .int srt, .ref fa, .ref qa, .ref ea, .ref za, .ref ya, .int wks])), (ra, .inl (cI, 7, .inl rf))]) hD hS hA [0, 1] rfl
                refine va_calli (va_runV (As := [.int (-6)]) (rest := []) ⟨hx, hb, hml, hown, hts⟩ (g_X5_no l D cI cL cZ cC _ g0 ra wa ta ma pa ba ka fa qa ea za ya kpt mkd tpd at0 wel srt wks rf (-6) (by first | assumption | decide +kernel) (by first | assumption | decide +kernel)) (cwV 1 hts gX5_others_X5_no rfl rfl rfl (by decide +kernel) ⟨Nat.le_of_ble_eq_true rfl, Nat.le_of_ble_eq_true rfl⟩) ⟨wPc_bl, va_recv hK hPc (ci := 5) (q0 := 0) rfl rfl, wPc_use hPc hK hDc⟩ rfl rfl hl.1 rfl (lv_room (Nat.le_of_ble_eq_true rfl)) dX5_others_53 ⟨Nat.le_of_ble_eq_true rfl, Nat.le_of_ble_eq_true rfl⟩) hS (fun q _ h => hFc q h) hFc (fun r_13 u_13 t H1 locs ht hvm hw hB hz1 hk1 hS => ?_)
                obtain ⟨hP1, hD1⟩ := hB
                rw [ht] at hP1
                obtain ⟨hP, hD⟩ := va_join (wr := []) (w1 := [(g0, .inr (5, [.ref ra, .ref wa, .ref ta, .int kpt, .ref ma, .int mkd, .ref pa, .int tpd, .int at0, .int wel, .ref ba, .ref ka, .int srt, .ref fa, .ref qa, .ref ea, .ref za, .ref ya, .int wks])), (ra, .inl (cI, 7, .inl (xRf rf (-6))))]) hP hD [0, 1] [] rfl rfl (by decide) (by decide) hk1 hFc hP1 hD1
                generalize H1 = H at hP hS ⊢
                have hP : va_P D vwCl [(g0, .inr (5, [.ref ra, .ref wa, .ref ta, .int kpt, .ref ma, .int mkd, .ref pa, .int tpd, .int at0, .int wel, .ref ba, .ref ka, .int srt, .ref fa, .ref qa, .ref ea, .ref za, .ref ya, .int wks])), (ra, .inl (cI, 7, .inl (xRf rf (-6))))] H := hP
                have hD : va_D A [(g0, .inr (5, [.ref ra, .ref wa, .ref ta, .int kpt, .ref ma, .int mkd, .ref pa, .int tpd, .int at0, .int wel, .ref ba, .ref ka, .int srt, .ref fa, .ref qa, .ref ea, .ref za, .ref ya, .int wks])), (ra, .inl (cI, 7, .inl (xRf rf (-6))))] := hD
                obtain rfl : ((-6) : Int32) = r_13 := Eq.symm hw
                have hP9 := hP.sub (ws' := [(g0, .inr (5, [.ref ra, .ref wa, .ref ta, .int kpt, .ref ma, .int mkd, .ref pa, .int tpd, .int at0, .int wel, .ref ba, .ref ka, .int srt, .ref fa, .ref qa, .ref ea, .ref za, .ref ya, .int wks])), (ra, .inl (cI, 7, .inl (xRf rf (-6))))]) [0, 1] rfl
                have hD9 := hD.sub (ws' := [(g0, .inr (5, [.ref ra, .ref wa, .ref ta, .int kpt, .ref ma, .int mkd, .ref pa, .int tpd, .int at0, .int wel, .ref ba, .ref ka, .int srt, .ref fa, .ref qa, .ref ea, .ref za, .ref ya, .int wks])), (ra, .inl (cI, 7, .inl (xRf rf (-6))))]) [0, 1] (by decide) rfl
                have hE9 : ([(g0, .inr (5, [.ref ra, .ref wa, .ref ta, .int kpt, .ref ma, .int mkd, .ref pa, .int tpd, .int at0, .int wel, .ref ba, .ref ka, .int srt, .ref fa, .ref qa, .ref ea, .ref za, .ref ya, .int wks])), (ra, .inl (cI, 7, .inl (xRf rf (-6))))] : va_W) = [(g0, .inr (5, [.ref ra, .ref wa, .ref ta, .int kpt, .ref ma, .int mkd, .ref pa, .int tpd, .int at0, .int wel, .ref ba, .ref ka, .int srt, .ref fa, .ref qa, .ref ea, .ref za, .ref ya, .int wks])), (ra, .inl (cI, 7, .inl (xRq rf (qOt a1 a2 a3 a4))))] := by simp [xRq, qOt, c_1, c_3, c_5, (Int32.not_lt.mpr c_7), c_8, c_10, c_12]
                refine W.widen (k := 1) (n := 9) (Nat.le_of_ble_eq_true rfl) (Nat.le_of_ble_eq_true rfl) ?_
                exact W.iret (v := -6) hx hb hr (fun t ht hW => ⟨⟨_, (), rfl, by simp [qOt, c_1, c_3, c_5, (Int32.not_lt.mpr c_7), c_8, c_10, c_12], by rw [ht]; exact hE9 ▸ hP9, hE9 ▸ hD9⟩, hS.F ht⟩) hS.2.2 dX5_others_56
              · refine lv_iload hx hb dX5_others_43 (lv_at hl 4 rfl) ?_
                refine lv_bipush (v := 60) hx hb dX5_others_45 (by decide) ?_
                refine lv_icmp_le (tgt := 57) hx hb dX5_others_47 (by decide) (fun c_14 => ?_) (fun c_14 => ?_)
                · have e5 : qOt a1 a2 a3 a4 = 0 := by simp [qOt, c_1, c_3, c_5, (Int32.not_lt.mpr c_7), c_8, c_10, c_12, (Int32.not_lt.mpr c_14)]
                  obtain ⟨n1, rfl, hn1⟩ := xInN1 (n := 9) (by decide) c_1 c_8
                  obtain ⟨h9, rfl, hh9⟩ := xInN (n := 30) (by decide) c_3 c_10
                  obtain ⟨q9, rfl, hq9⟩ := xInN (n := 30) (by decide) c_5 c_12
                  obtain ⟨n4, rfl, hn4⟩ := xInN (n := 60) (by decide) (Int32.not_lt.mpr c_7) (Int32.not_lt.mpr c_14)
                  obtain ⟨G9, hG⟩ : ∃ G : Int32 → Int32, ∀ s9 : Int32, xSm (fun i => if s9 < nI i * nI h9 + nI q9 then 1 else 0) n1 = G s9 := ⟨_, fun _ => rfl⟩
                  refine lv_iload_n hx hb dX5_others_57 rfl (lv_at hl 1 rfl) ?_
                  refine lv_istore (lv' := [(5, .int (nI n1)), (0, .ref g0), (1, .int (nI n1)), (2, .int (nI h9)), (3, .int (nI q9)), (4, .int (nI n4))]) hx hb dX5_others_58 hl (by decide) rfl (fun ls hl => ?_)
                  refine lv_iconst (v := 0) hx hb dX5_others_60 (by decide) ?_
                  refine lv_istore (lv' := [(6, .int 0), (5, .int (nI n1)), (0, .ref g0), (1, .int (nI n1)), (2, .int (nI h9)), (3, .int (nI q9)), (4, .int (nI n4))]) hx hb dX5_others_61 hl (by decide) rfl (fun ls hl => ?_)
                  refine lv_iconst (v := 0) hx hb dX5_others_63 (by decide) ?_
                  refine lv_istore (lv' := [(7, .int 0), (6, .int 0), (5, .int (nI n1)), (0, .ref g0), (1, .int (nI n1)), (2, .int (nI h9)), (3, .int (nI q9)), (4, .int (nI n4))]) hx hb dX5_others_64 hl (by decide) rfl (fun ls hl => ?_)
                  refine lv_bipush (v := 9) hx hb dX5_others_66 (by decide) ?_
                  refine va_newa (D := D) (atype := .boolean) (ty := .boolean) (N' := 9) (a0 := (9, .inl (fun _ => 0))) hx hb (hts (.arrayClass .boolean) (by decide +kernel)) rfl hK hP hD hS hA (fun _ => rfl) (by decide +kernel) (by decide +kernel) (Nat.le_of_ble_eq_true rfl) (Nat.le_of_ble_eq_true rfl) (Nat.le_of_ble_eq_true rfl) dX5_others_68 (fun q_68_15 cA H hK2 hP hD hS => ?_)
                  obtain rfl : cZ = cA := xK_uniq hK2 2 4 rfl rfl (by decide)
                  have hP : va_P D vwCl [(g0, .inr (5, [.ref ra, .ref wa, .ref ta, .int kpt, .ref ma, .int mkd, .ref pa, .int tpd, .int at0, .int wel, .ref ba, .ref ka, .int srt, .ref fa, .ref qa, .ref ea, .ref za, .ref ya, .int wks])), (ra, .inl (cI, 7, .inl rf)), (q_68_15, .inl (cZ, 9, .inl (fun _ => 0)))] H := hP
                  have hD : va_D A [(g0, .inr (5, [.ref ra, .ref wa, .ref ta, .int kpt, .ref ma, .int mkd, .ref pa, .int tpd, .int at0, .int wel, .ref ba, .ref ka, .int srt, .ref fa, .ref qa, .ref ea, .ref za, .ref ya, .int wks])), (ra, .inl (cI, 7, .inl rf)), (q_68_15, .inl (cZ, 9, .inl (fun _ => 0)))] := hD
                  refine W.widen (k := 1) (n := 9) (Nat.le_of_ble_eq_true rfl) (Nat.le_of_ble_eq_true rfl) ?_
                  refine lv_astore (lv' := [(8, .ref q_68_15), (7, .int 0), (6, .int 0), (5, .int (nI n1)), (0, .ref g0), (1, .int (nI n1)), (2, .int (nI h9)), (3, .int (nI q9)), (4, .int (nI n4))]) hx hb dX5_others_70 hl (by decide) rfl (fun ls hl => ?_)
                  refine lv_iconst (v := 1) hx hb dX5_others_72 (by decide) ?_
                  refine lv_istore (lv' := [(9, .int 1), (8, .ref q_68_15), (7, .int 0), (6, .int 0), (5, .int (nI n1)), (0, .ref g0), (1, .int (nI n1)), (2, .int (nI h9)), (3, .int (nI q9)), (4, .int (nI n4))]) hx hb dX5_others_73 hl (by decide) rfl (fun ls hl => ?_)
                  refine xl_loopH (σ := Nat × Nat × Nat × Nat × (Nat → Bool) × (Nat → Int32)) (fun n q H locs ls => lv_has ls 11 [(9, .int (nI (q.1 + 1))), (8, .ref q_68_15), (7, .int (nI q.2.2.2.1)), (6, .int (nI q.2.2.1)), (5, .int (nI q.2.1)), (0, .ref g0), (1, .int (nI n1)), (2, .int (nI h9)), (3, .int (nI q9)), (4, .int (nI n4))] ∧ va_P D vwCl [(g0, .inr (5, [.ref ra, .ref wa, .ref ta, .int kpt, .ref ma, .int mkd, .ref pa, .int tpd, .int at0, .int wel, .ref ba, .ref ka, .int srt, .ref fa, .ref qa, .ref ea, .ref za, .ref ya, .int wks])), (ra, .inl (cI, 7, .inl rf)), (q_68_15, .inl (cZ, 9, .inl q.2.2.2.2.2))] H ∧ va_D A [(g0, .inr (5, [.ref ra, .ref wa, .ref ta, .int kpt, .ref ma, .int mkd, .ref pa, .int tpd, .int at0, .int wel, .ref ba, .ref ka, .int srt, .ref fa, .ref qa, .ref ea, .ref za, .ref ya, .int wks])), (ra, .inl (cI, 7, .inl rf)), (q_68_15, .inl (cZ, 9, .inl q.2.2.2.2.2))] ∧ va_S A s.heap H locs ∧ (n4 + 1 - q.1 < n) ∧ (q.1 ≤ n4) ∧ (q.2.2.1 ≤ 10 * q.1 ∧ q.2.2.2.1 ≤ 9) ∧ (∀ z, q.2.2.2.2.1 z = false → xHv h9 q9 z ≤ q.2.2.1) ∧ (∀ z, z < n1 → q.2.2.2.2.2 z = if q.2.2.2.2.1 z then (0 : Int32) else 1) ∧ (xOt G9 (nI n1) q.1 = (nI q.2.1, nI q.2.2.1, nI q.2.2.2.1)) ∧ (q.2.1 = xCt q.2.2.2.2.1 n1)) (n4 + 2) (0, n1, 0, 0, fun _ => true, fun _ => 0) ⟨lv_sub hl [0, 1, 2, 3, 4, 5, 6, 7, 8, 9] rfl, hP.sub [0, 1, 2] rfl, hD.sub [0, 1, 2] (by decide) rfl, hS, by (try dsimp only); exact ⟨by omega, by omega, by omega, (fun z h => by simp at h), (fun z h => rfl), rfl, (xCt_all n1).symm⟩⟩ (fun q H lc ls h => absurd h.2.2.2.2.1 (Nat.not_lt_zero _)) ?_
                  intro n_75 q_75 H locs ls ih_75 hI_75
                  obtain ⟨hl, hP, hD, hS, hI_75⟩ := hI_75
                  obtain ⟨k, c9, l9, f9, al, g⟩ := q_75
                  obtain ⟨h1, h2, h3, h4, h5, h6, h7⟩ := hI_75
                  try dsimp only at hl hP hD h1 h2 h3 h4 h5 h6 h7
                  refine lv_iload hx hb dX5_others_75 (lv_at hl 0 rfl) ?_
                  refine lv_iload hx hb dX5_others_77 (lv_at hl 9 rfl) ?_
                  refine lv_icmp_gt (tgt := 151) hx hb dX5_others_79 (by decide) (fun c_16 => ?_) (fun c_16 => ?_)
                  · refine lv_iload hx hb dX5_others_151 (lv_at hl 4 rfl) ?_
                    have hP9 := hP.sub (ws' := [(g0, .inr (5, [.ref ra, .ref wa, .ref ta, .int kpt, .ref ma, .int mkd, .ref pa, .int tpd, .int at0, .int wel, .ref ba, .ref ka, .int srt, .ref fa, .ref qa, .ref ea, .ref za, .ref ya, .int wks])), (ra, .inl (cI, 7, .inl rf))]) [0, 1] rfl
                    have hD9 := hD.sub (ws' := [(g0, .inr (5, [.ref ra, .ref wa, .ref ta, .int kpt, .ref ma, .int mkd, .ref pa, .int tpd, .int at0, .int wel, .ref ba, .ref ka, .int srt, .ref fa, .ref qa, .ref ea, .ref za, .ref ya, .int wks])), (ra, .inl (cI, 7, .inl rf))]) [0, 1] (by decide) rfl
                    have hE9 : ([(g0, .inr (5, [.ref ra, .ref wa, .ref ta, .int kpt, .ref ma, .int mkd, .ref pa, .int tpd, .int at0, .int wel, .ref ba, .ref ka, .int srt, .ref fa, .ref qa, .ref ea, .ref za, .ref ya, .int wks])), (ra, .inl (cI, 7, .inl rf))] : va_W) = [(g0, .inr (5, [.ref ra, .ref wa, .ref ta, .int kpt, .ref ma, .int mkd, .ref pa, .int tpd, .int at0, .int wel, .ref ba, .ref ka, .int srt, .ref fa, .ref qa, .ref ea, .ref za, .ref ya, .int wks])), (ra, .inl (cI, 7, .inl (xRq rf (qOt (nI n1) (nI h9) (nI q9) (nI n4)))))] := by simp [xRq, e5]
                    exact W.iret (v := nI c9) hx hb hr (fun t ht hW => ⟨⟨_, (), rfl, (by have w := (nI_ltI (a := n4) (b := k + 1) (by omega) (by omega)).mp c_16; obtain rfl : k = n4 := (by omega); simp [e5, vOt, nI_clamp (show n1 < 2 ^ 31 by omega), nI_clamp (show k < 2 ^ 31 by omega), hG, h6]), by rw [ht]; exact hE9 ▸ hP9, hE9 ▸ hD9⟩, hS.F ht⟩) hS.2.2 dX5_others_153
                  · refine lv_iload hx hb dX5_others_82 (lv_at hl 3 rfl) ?_
                    refine lv_iconst (v := 1) hx hb dX5_others_84 (by decide) ?_
                    refine lv_iload hx hb dX5_others_85 (lv_at hl 2 rfl) ?_
                    refine lv_iadd hx hb dX5_others_87 ?_
                    refine xv_int (y := nI (1 + f9)) (nI_add 1 f9) ?_
                    refine lv_iadd hx hb dX5_others_88 ?_
                    refine xv_int (y := nI (l9 + (1 + f9))) (nI_add _ _) ?_
                    refine lv_istore (lv' := [(6, .int (nI (l9 + (1 + f9)))), (9, .int (nI (k + 1))), (8, .ref q_68_15), (7, .int (nI f9)), (5, .int (nI c9)), (0, .ref g0), (1, .int (nI n1)), (2, .int (nI h9)), (3, .int (nI q9)), (4, .int (nI n4))]) hx hb dX5_others_89 hl (by decide) rfl (fun ls hl => ?_)
                    refine lv_iconst (v := 0) hx hb dX5_others_91 (by decide) ?_
                    refine lv_istore (lv' := [(7, .int 0), (6, .int (nI (l9 + (1 + f9)))), (9, .int (nI (k + 1))), (8, .ref q_68_15), (5, .int (nI c9)), (0, .ref g0), (1, .int (nI n1)), (2, .int (nI h9)), (3, .int (nI q9)), (4, .int (nI n4))]) hx hb dX5_others_92 hl (by decide) rfl (fun ls hl => ?_)
                    refine lv_iconst (v := 0) hx hb dX5_others_94 (by decide) ?_
                    refine lv_istore (lv' := [(10, .int 0), (7, .int 0), (6, .int (nI (l9 + (1 + f9)))), (9, .int (nI (k + 1))), (8, .ref q_68_15), (5, .int (nI c9)), (0, .ref g0), (1, .int (nI n1)), (2, .int (nI h9)), (3, .int (nI q9)), (4, .int (nI n4))]) hx hb dX5_others_95 hl (by decide) rfl (fun ls hl => ?_)
                    refine xl_loopH (σ := Nat × Nat × (Nat → Int32)) (fun n q H locs ls => lv_has ls 11 [(10, .int (nI q.1)), (7, .int (nI q.2.1)), (6, .int (nI (l9 + (1 + f9)))), (9, .int (nI (k + 1))), (8, .ref q_68_15), (5, .int (nI c9)), (0, .ref g0), (1, .int (nI n1)), (2, .int (nI h9)), (3, .int (nI q9)), (4, .int (nI n4))] ∧ va_P D vwCl [(g0, .inr (5, [.ref ra, .ref wa, .ref ta, .int kpt, .ref ma, .int mkd, .ref pa, .int tpd, .int at0, .int wel, .ref ba, .ref ka, .int srt, .ref fa, .ref qa, .ref ea, .ref za, .ref ya, .int wks])), (ra, .inl (cI, 7, .inl rf)), (q_68_15, .inl (cZ, 9, .inl q.2.2))] H ∧ va_D A [(g0, .inr (5, [.ref ra, .ref wa, .ref ta, .int kpt, .ref ma, .int mkd, .ref pa, .int tpd, .int at0, .int wel, .ref ba, .ref ka, .int srt, .ref fa, .ref qa, .ref ea, .ref za, .ref ya, .int wks])), (ra, .inl (cI, 7, .inl rf)), (q_68_15, .inl (cZ, 9, .inl q.2.2))] ∧ va_S A s.heap H locs ∧ (n1 - q.1 < n) ∧ (q.1 ≤ n1) ∧ (∀ z, z < n1 → q.2.2 z = if z < q.1 then (if (fun z : Nat => decide (l9 + (1 + f9) < xHv h9 q9 z)) z then (0 : Int32) else 1) else (if al z then 0 else 1)) ∧ (q.2.1 + xCt (fun z : Nat => decide (l9 + (1 + f9) < xHv h9 q9 z)) q.1 = xCt al q.1)) (n1 + 1) (0, 0, g) ⟨lv_sub hl [0, 1, 2, 3, 4, 5, 6, 7, 8, 9, 10] rfl, hP.sub [0, 1, 2] rfl, hD.sub [0, 1, 2] (by decide) rfl, hS, by (try dsimp only); exact ⟨by omega, by omega, (fun z hz => by rw [if_neg (Nat.not_lt_zero z)]; exact h5 z hz), rfl⟩⟩ (fun q H lc ls h => absurd h.2.2.2.2.1 (Nat.not_lt_zero _)) ?_
                    intro n_97 q_97 H locs ls ih_97 hI_97
                    obtain ⟨hl, hP, hD, hS, hI_97⟩ := hI_97
                    obtain ⟨i, f8, g2⟩ := q_97
                    obtain ⟨i1, i2, i3, i4⟩ := hI_97
                    try dsimp only at hl hP hD i1 i2 i3 i4
                    refine lv_iload hx hb dX5_others_97 (lv_at hl 0 rfl) ?_
                    refine lv_iload_n hx hb dX5_others_99 rfl (lv_at hl 7 rfl) ?_
                    refine lv_icmp_ge (tgt := 138) hx hb dX5_others_100 (by decide) (fun c_17 => ?_) (fun c_17 => ?_)
                    · have wi : i = n1 := by have w := mt (nI_ltI (a := i) (b := n1) (by omega) (by omega)).mpr (Int32.not_lt.mpr c_17); omega
                      have i4n : f8 + xCt (fun z : Nat => decide (l9 + (1 + f9) < xHv h9 q9 z)) n1 = xCt al n1 := by rw [← wi]; exact i4
                      have hle9 := xCt_le al n1
                      refine lv_iload hx hb dX5_others_138 (lv_at hl 5 rfl) ?_
                      refine lv_iload hx hb dX5_others_140 (lv_at hl 1 rfl) ?_
                      refine lv_isub hx hb dX5_others_142 ?_
                      refine xv_int (y := nI (xCt (fun z : Nat => decide (l9 + (1 + f9) < xHv h9 q9 z)) n1)) (by rw [pk_sub (show f8 ≤ c9 by omega)]; exact congrArg nI (by omega)) ?_
                      refine lv_istore (lv' := [(5, .int (nI (xCt (fun z : Nat => decide (l9 + (1 + f9) < xHv h9 q9 z)) n1))), (10, .int (nI i)), (7, .int (nI f8)), (6, .int (nI (l9 + (1 + f9)))), (9, .int (nI (k + 1))), (8, .ref q_68_15), (0, .ref g0), (1, .int (nI n1)), (2, .int (nI h9)), (3, .int (nI q9)), (4, .int (nI n4))]) hx hb dX5_others_143 hl (by decide) rfl (fun ls hl => ?_)
                      refine lv_iinc (v := nI (k + 1 + 1)) (lv' := [(9, .int (nI (k + 1 + 1))), (5, .int (nI (xCt (fun z : Nat => decide (l9 + (1 + f9) < xHv h9 q9 z)) n1))), (10, .int (nI i)), (7, .int (nI f8)), (6, .int (nI (l9 + (1 + f9)))), (8, .ref q_68_15), (0, .ref g0), (1, .int (nI n1)), (2, .int (nI h9)), (3, .int (nI q9)), (4, .int (nI n4))]) hx hb dX5_others_145 hl (k := 4) rfl (nI_1 (k + 1)) (by decide) rfl (fun ls hl => ?_)
                      refine lv_goto (tgt := 75) hx hb dX5_others_148 (by decide) ?_
                      have w := mt (nI_ltI (a := n4) (b := k + 1) (by omega) (by omega)).mpr c_16
                      have h5n : ∀ z, z < n1 → g2 z = if (fun z : Nat => decide (l9 + (1 + f9) < xHv h9 q9 z)) z then (0 : Int32) else 1 := fun z hz => by have q := i3 z hz; rw [if_pos (by omega)] at q; exact q
                      have hG9 : G9 (nI (l9 + (1 + f9))) = nI (xCt (fun z : Nat => decide (l9 + (1 + f9) < xHv h9 q9 z)) n1) := by rw [← hG]; exact xGc hh9 hq9 (by omega) n1 (by omega)
                      have h6n := xOt_s h6 hG9 (f' := f8) (by omega)
                      exact ih_75 (k + 1, xCt (fun z : Nat => decide (l9 + (1 + f9) < xHv h9 q9 z)) n1, l9 + (1 + f9), f8, (fun z : Nat => decide (l9 + (1 + f9) < xHv h9 q9 z)), g2) _ _ _ ⟨lv_sub hl [0, 5, 3, 4, 1, 6, 7, 8, 9, 10] rfl, hP.sub [0, 1, 2] rfl, hD.sub [0, 1, 2] (by decide) rfl, hS, by (try dsimp only); exact ⟨by omega, by omega, by omega, (fun z h => by have := of_decide_eq_false h; omega), h5n, h6n, rfl⟩⟩
                    · refine lv_aload hx hb dX5_others_103 (lv_at hl 4 rfl) ?_
                      refine lv_iload hx hb dX5_others_105 (lv_at hl 0 rfl) ?_
                      refine va_zald (D := D) hx hb hK hP 2 2 rfl rfl (vp_in_nI (by have w := (nI_ltI (a := i) (b := n1) (by omega) (by omega)).mp (Int32.not_le.mp c_17); omega) (by decide)) dX5_others_107 ?_
                      refine xv_int (y := g2 i) (congrArg g2 (nI_clamp (by omega))) ?_
                      refine lv_if_ne (tgt := 132) hx hb dX5_others_108 (by decide) (fun c_18 => ?_) (fun c_18 => ?_)
                      · refine lv_iinc (v := nI (i + 1)) (lv' := [(10, .int (nI (i + 1))), (7, .int (nI f8)), (6, .int (nI (l9 + (1 + f9)))), (9, .int (nI (k + 1))), (8, .ref q_68_15), (5, .int (nI c9)), (0, .ref g0), (1, .int (nI n1)), (2, .int (nI h9)), (3, .int (nI q9)), (4, .int (nI n4))]) hx hb dX5_others_132 hl (k := 0) rfl (nI_1 i) (by decide) rfl (fun ls hl => ?_)
                        refine lv_goto (tgt := 97) hx hb dX5_others_135 (by decide) ?_
                        have w := (nI_ltI (a := i) (b := n1) (by omega) (by omega)).mp (Int32.not_le.mp c_17)
                        have wb := xHv_b hh9 hq9 (show i ≤ 9 by omega)
                        have ea : ¬ al i = true := by have ei := i3 i w; rw [if_neg (Nat.lt_irrefl i)] at ei; by_cases q : al i = true; (rw [if_pos q] at ei); exact absurd ei c_18; exact q
                        have eb : ¬ decide (l9 + (1 + f9) < xHv h9 q9 i) = true := by have q9x := xAl_f (l' := l9 + (1 + f9)) h4 (by omega) (show al i = false by simpa using ea); rw [q9x]; decide
                        have hrel : ∀ z, z < n1 → g2 z = if z < i + 1 then (if (fun z : Nat => decide (l9 + (1 + f9) < xHv h9 q9 z)) z then (0 : Int32) else 1) else (if al z then 0 else 1) := by
                          intro z hz
                          by_cases q : z = i
                          · subst q; rw [if_pos (Nat.lt_succ_self z), i3 z hz, if_neg (Nat.lt_irrefl z), if_neg ea]; exact (if_neg eb).symm
                          · rw [i3 z hz]
                            by_cases r : z < i
                            · rw [if_pos r, if_pos (show z < i + 1 by omega)]
                            · rw [if_neg r, if_neg (show ¬ z < i + 1 by omega)]
                        exact ih_97 (i + 1, f8, g2) _ _ _ ⟨lv_sub hl [0, 1, 2, 3, 4, 5, 6, 7, 8, 9, 10] rfl, hP.sub [0, 1, 2] rfl, hD.sub [0, 1, 2] (by decide) rfl, hS, by (try dsimp only); exact ⟨by omega, by omega, hrel, by simp only [xCt]; rw [if_neg eb, if_neg ea]; omega⟩⟩
                      · refine lv_iload hx hb dX5_others_111 (lv_at hl 0 rfl) ?_
                        refine lv_iload_n hx hb dX5_others_113 rfl (lv_at hl 8 rfl) ?_
                        refine lv_imul hx hb dX5_others_114 ?_
                        refine lv_iload_n hx hb dX5_others_115 rfl (lv_at hl 9 rfl) ?_
                        refine lv_iadd hx hb dX5_others_116 ?_
                        refine lv_iload hx hb dX5_others_117 (lv_at hl 2 rfl) ?_
                        refine lv_isub hx hb dX5_others_119 ?_
                        refine lv_if_gt (tgt := 132) hx hb dX5_others_120 (by decide) (fun c_19 => ?_) (fun c_19 => ?_)
                        · refine lv_iinc (v := nI (i + 1)) (lv' := [(10, .int (nI (i + 1))), (7, .int (nI f8)), (6, .int (nI (l9 + (1 + f9)))), (9, .int (nI (k + 1))), (8, .ref q_68_15), (5, .int (nI c9)), (0, .ref g0), (1, .int (nI n1)), (2, .int (nI h9)), (3, .int (nI q9)), (4, .int (nI n4))]) hx hb dX5_others_132 hl (k := 0) rfl (nI_1 i) (by decide) rfl (fun ls hl => ?_)
                          refine lv_goto (tgt := 97) hx hb dX5_others_135 (by decide) ?_
                          have w := (nI_ltI (a := i) (b := n1) (by omega) (by omega)).mp (Int32.not_le.mp c_17)
                          have wb := xHv_b hh9 hq9 (show i ≤ 9 by omega)
                          have ea : al i = true := by have ei := i3 i w; rw [if_neg (Nat.lt_irrefl i)] at ei; by_cases q : al i = true; exact q; (rw [if_neg q] at ei); exact absurd (c_18) (by rw [ei]; decide)
                          have et : (nI i * nI h9 + nI q9 - nI (l9 + (1 + f9))).toInt = (xHv h9 q9 i : Int) - (l9 + (1 + f9) : Nat) := by rw [xHv_e]; exact pk_sub_toInt (by omega) (by omega)
                          have eb : decide (l9 + (1 + f9) < xHv h9 q9 i) = true := decide_eq_true (by have c := c_19; rw [xi_lt, et] at c; have e0 : (0 : Int32).toInt = 0 := (by decide); omega)
                          have hrel : ∀ z, z < n1 → g2 z = if z < i + 1 then (if (fun z : Nat => decide (l9 + (1 + f9) < xHv h9 q9 z)) z then (0 : Int32) else 1) else (if al z then 0 else 1) := by
                            intro z hz
                            by_cases q : z = i
                            · subst q; rw [if_pos (Nat.lt_succ_self z), i3 z hz, if_neg (Nat.lt_irrefl z), if_pos ea]; exact (if_pos eb).symm
                            · rw [i3 z hz]
                              by_cases r : z < i
                              · rw [if_pos r, if_pos (show z < i + 1 by omega)]
                              · rw [if_neg r, if_neg (show ¬ z < i + 1 by omega)]
                          exact ih_97 (i + 1, f8, g2) _ _ _ ⟨lv_sub hl [0, 1, 2, 3, 4, 5, 6, 7, 8, 9, 10] rfl, hP.sub [0, 1, 2] rfl, hD.sub [0, 1, 2] (by decide) rfl, hS, by (try dsimp only); exact ⟨by omega, by omega, hrel, by simp only [xCt]; rw [if_pos eb, if_pos ea]; omega⟩⟩
                        · refine lv_aload hx hb dX5_others_123 (lv_at hl 4 rfl) ?_
                          refine lv_iload hx hb dX5_others_125 (lv_at hl 0 rfl) ?_
                          refine lv_iconst (v := 1) hx hb dX5_others_127 (by decide) ?_
                          refine va_zast (D := D) hx hb hK hP hD hS 2 2 rfl rfl (vp_in_nI (by have w := (nI_ltI (a := i) (b := n1) (by omega) (by omega)).mp (Int32.not_le.mp c_17); omega) (by decide)) dX5_others_128 (fun H locs hP hD hS => ?_)
                          rw [nI_clamp (by omega)] at hP hD
                          have hP : va_P D vwCl [(g0, .inr (5, [.ref ra, .ref wa, .ref ta, .int kpt, .ref ma, .int mkd, .ref pa, .int tpd, .int at0, .int wel, .ref ba, .ref ka, .int srt, .ref fa, .ref qa, .ref ea, .ref za, .ref ya, .int wks])), (ra, .inl (cI, 7, .inl rf)), (q_68_15, .inl (cZ, 9, .inl (upd g2 i 1)))] H := hP
                          have hD : va_D A [(g0, .inr (5, [.ref ra, .ref wa, .ref ta, .int kpt, .ref ma, .int mkd, .ref pa, .int tpd, .int at0, .int wel, .ref ba, .ref ka, .int srt, .ref fa, .ref qa, .ref ea, .ref za, .ref ya, .int wks])), (ra, .inl (cI, 7, .inl rf)), (q_68_15, .inl (cZ, 9, .inl (upd g2 i 1)))] := hD
                          refine lv_iinc (v := nI (f8 + 1)) (lv' := [(7, .int (nI (f8 + 1))), (10, .int (nI i)), (6, .int (nI (l9 + (1 + f9)))), (9, .int (nI (k + 1))), (8, .ref q_68_15), (5, .int (nI c9)), (0, .ref g0), (1, .int (nI n1)), (2, .int (nI h9)), (3, .int (nI q9)), (4, .int (nI n4))]) hx hb dX5_others_129 hl (k := 1) rfl (nI_1 f8) (by decide) rfl (fun ls hl => ?_)
                          refine lv_iinc (v := nI (i + 1)) (lv' := [(10, .int (nI (i + 1))), (7, .int (nI (f8 + 1))), (6, .int (nI (l9 + (1 + f9)))), (9, .int (nI (k + 1))), (8, .ref q_68_15), (5, .int (nI c9)), (0, .ref g0), (1, .int (nI n1)), (2, .int (nI h9)), (3, .int (nI q9)), (4, .int (nI n4))]) hx hb dX5_others_132 hl (k := 1) rfl (nI_1 i) (by decide) rfl (fun ls hl => ?_)
                          refine lv_goto (tgt := 97) hx hb dX5_others_135 (by decide) ?_
                          have w := (nI_ltI (a := i) (b := n1) (by omega) (by omega)).mp (Int32.not_le.mp c_17)
                          have wb := xHv_b hh9 hq9 (show i ≤ 9 by omega)
                          have ea : al i = true := by have ei := i3 i w; rw [if_neg (Nat.lt_irrefl i)] at ei; by_cases q : al i = true; exact q; (rw [if_neg q] at ei); exact absurd (c_18) (by rw [ei]; decide)
                          have et : (nI i * nI h9 + nI q9 - nI (l9 + (1 + f9))).toInt = (xHv h9 q9 i : Int) - (l9 + (1 + f9) : Nat) := by rw [xHv_e]; exact pk_sub_toInt (by omega) (by omega)
                          have eb : ¬ decide (l9 + (1 + f9) < xHv h9 q9 i) = true := fun hd9 => by have hd9 := of_decide_eq_true hd9; have c := c_19; rw [xi_lt, et] at c; have e0 : (0 : Int32).toInt = 0 := (by decide); omega
                          have hrel : ∀ z, z < n1 → (upd g2 i 1) z = if z < i + 1 then (if (fun z : Nat => decide (l9 + (1 + f9) < xHv h9 q9 z)) z then (0 : Int32) else 1) else (if al z then 0 else 1) := by
                            intro z hz
                            by_cases q : z = i
                            · subst q; rw [if_pos (Nat.lt_succ_self z), pk_us]; exact (if_neg eb).symm
                            · rw [pk_un q, i3 z hz]
                              by_cases r : z < i
                              · rw [if_pos r, if_pos (show z < i + 1 by omega)]
                              · rw [if_neg r, if_neg (show ¬ z < i + 1 by omega)]
                          exact ih_97 (i + 1, f8 + 1, upd g2 i 1) _ _ _ ⟨lv_sub hl [0, 1, 2, 3, 4, 5, 6, 7, 8, 9, 10] rfl, hP.sub [0, 1, 2] rfl, hD.sub [0, 1, 2] (by decide) rfl, hS, by (try dsimp only); exact ⟨by omega, by omega, hrel, by simp only [xCt]; rw [if_neg eb, if_pos ea]; omega⟩⟩
                · refine lv_aload_n hx hb dX5_others_50 rfl (lv_at hl 0 rfl) ?_
                  refine lv_bipush (v := -6) hx hb dX5_others_51 (by decide) ?_
                  have hPc := hP.sub (ws' := [(g0, .inr (5, [.ref ra, .ref wa, .ref ta, .int kpt, .ref ma, .int mkd, .ref pa, .int tpd, .int at0, .int wel, .ref ba, .ref ka, .int srt, .ref fa, .ref qa, .ref ea, .ref za, .ref ya, .int wks])), (ra, .inl (cI, 7, .inl rf))]) [0, 1] rfl
                  have hDc := hD.sub (ws' := [(g0, .inr (5, [.ref ra, .ref wa, .ref ta, .int kpt, .ref ma, .int mkd, .ref pa, .int tpd, .int at0, .int wel, .ref ba, .ref ka, .int srt, .ref fa, .ref qa, .ref ea, .ref za, .ref ya, .int wks])), (ra, .inl (cI, 7, .inl rf))]) [0, 1] (by decide) rfl
                  have hFc := va_free (wc := [(g0, .inr (5, [.ref ra, .ref wa, .ref ta, .int kpt, .ref ma, .int mkd, .ref pa, .int tpd, .int at0, .int wel, .ref ba, .ref ka, .int srt, .ref fa, .ref qa, .ref ea, .ref za, .ref ya, .int wks])), (ra, .inl (cI, 7, .inl rf))]) hD hS hA [0, 1] rfl
                  refine va_calli (va_runV (As := [.int (-6)]) (rest := []) ⟨hx, hb, hml, hown, hts⟩ (g_X5_no l D cI cL cZ cC _ g0 ra wa ta ma pa ba ka fa qa ea za ya kpt mkd tpd at0 wel srt wks rf (-6) (by first | assumption | decide +kernel) (by first | assumption | decide +kernel)) (cwV 1 hts gX5_others_X5_no rfl rfl rfl (by decide +kernel) ⟨Nat.le_of_ble_eq_true rfl, Nat.le_of_ble_eq_true rfl⟩) ⟨wPc_bl, va_recv hK hPc (ci := 5) (q0 := 0) rfl rfl, wPc_use hPc hK hDc⟩ rfl rfl hl.1 rfl (lv_room (Nat.le_of_ble_eq_true rfl)) dX5_others_53 ⟨Nat.le_of_ble_eq_true rfl, Nat.le_of_ble_eq_true rfl⟩) hS (fun q _ h => hFc q h) hFc (fun r_20 u_20 t H1 locs ht hvm hw hB hz1 hk1 hS => ?_)
                  obtain ⟨hP1, hD1⟩ := hB
                  rw [ht] at hP1
                  obtain ⟨hP, hD⟩ := va_join (wr := []) (w1 := [(g0, .inr (5, [.ref ra, .ref wa, .ref ta, .int kpt, .ref ma, .int mkd, .ref pa, .int tpd, .int at0, .int wel, .ref ba, .ref ka, .int srt, .ref fa, .ref qa, .ref ea, .ref za, .ref ya, .int wks])), (ra, .inl (cI, 7, .inl (xRf rf (-6))))]) hP hD [0, 1] [] rfl rfl (by decide) (by decide) hk1 hFc hP1 hD1
                  generalize H1 = H at hP hS ⊢
                  have hP : va_P D vwCl [(g0, .inr (5, [.ref ra, .ref wa, .ref ta, .int kpt, .ref ma, .int mkd, .ref pa, .int tpd, .int at0, .int wel, .ref ba, .ref ka, .int srt, .ref fa, .ref qa, .ref ea, .ref za, .ref ya, .int wks])), (ra, .inl (cI, 7, .inl (xRf rf (-6))))] H := hP
                  have hD : va_D A [(g0, .inr (5, [.ref ra, .ref wa, .ref ta, .int kpt, .ref ma, .int mkd, .ref pa, .int tpd, .int at0, .int wel, .ref ba, .ref ka, .int srt, .ref fa, .ref qa, .ref ea, .ref za, .ref ya, .int wks])), (ra, .inl (cI, 7, .inl (xRf rf (-6))))] := hD
                  obtain rfl : ((-6) : Int32) = r_20 := Eq.symm hw
                  have hP9 := hP.sub (ws' := [(g0, .inr (5, [.ref ra, .ref wa, .ref ta, .int kpt, .ref ma, .int mkd, .ref pa, .int tpd, .int at0, .int wel, .ref ba, .ref ka, .int srt, .ref fa, .ref qa, .ref ea, .ref za, .ref ya, .int wks])), (ra, .inl (cI, 7, .inl (xRf rf (-6))))]) [0, 1] rfl
                  have hD9 := hD.sub (ws' := [(g0, .inr (5, [.ref ra, .ref wa, .ref ta, .int kpt, .ref ma, .int mkd, .ref pa, .int tpd, .int at0, .int wel, .ref ba, .ref ka, .int srt, .ref fa, .ref qa, .ref ea, .ref za, .ref ya, .int wks])), (ra, .inl (cI, 7, .inl (xRf rf (-6))))]) [0, 1] (by decide) rfl
                  have hE9 : ([(g0, .inr (5, [.ref ra, .ref wa, .ref ta, .int kpt, .ref ma, .int mkd, .ref pa, .int tpd, .int at0, .int wel, .ref ba, .ref ka, .int srt, .ref fa, .ref qa, .ref ea, .ref za, .ref ya, .int wks])), (ra, .inl (cI, 7, .inl (xRf rf (-6))))] : va_W) = [(g0, .inr (5, [.ref ra, .ref wa, .ref ta, .int kpt, .ref ma, .int mkd, .ref pa, .int tpd, .int at0, .int wel, .ref ba, .ref ka, .int srt, .ref fa, .ref qa, .ref ea, .ref za, .ref ya, .int wks])), (ra, .inl (cI, 7, .inl (xRq rf (qOt a1 a2 a3 a4))))] := by simp [xRq, qOt, c_1, c_3, c_5, (Int32.not_lt.mpr c_7), c_8, c_10, c_12, (Int32.not_le.mp c_14)]
                  refine W.widen (k := 1) (n := 9) (Nat.le_of_ble_eq_true rfl) (Nat.le_of_ble_eq_true rfl) ?_
                  exact W.iret (v := -6) hx hb hr (fun t ht hW => ⟨⟨_, (), rfl, by simp [qOt, c_1, c_3, c_5, (Int32.not_lt.mpr c_7), c_8, c_10, c_12, (Int32.not_le.mp c_14)], by rw [ht]; exact hE9 ▸ hP9, hE9 ▸ hD9⟩, hS.F ht⟩) hS.2.2 dX5_others_56
        · refine lv_aload_n hx hb dX5_others_18 rfl (lv_at hl 0 rfl) ?_
          refine lv_bipush (v := -4) hx hb dX5_others_19 (by decide) ?_
          have hPc := hP.sub (ws' := [(g0, .inr (5, [.ref ra, .ref wa, .ref ta, .int kpt, .ref ma, .int mkd, .ref pa, .int tpd, .int at0, .int wel, .ref ba, .ref ka, .int srt, .ref fa, .ref qa, .ref ea, .ref za, .ref ya, .int wks])), (ra, .inl (cI, 7, .inl rf))]) [0, 1] rfl
          have hDc := hD.sub (ws' := [(g0, .inr (5, [.ref ra, .ref wa, .ref ta, .int kpt, .ref ma, .int mkd, .ref pa, .int tpd, .int at0, .int wel, .ref ba, .ref ka, .int srt, .ref fa, .ref qa, .ref ea, .ref za, .ref ya, .int wks])), (ra, .inl (cI, 7, .inl rf))]) [0, 1] (by decide) rfl
          have hFc := va_free (wc := [(g0, .inr (5, [.ref ra, .ref wa, .ref ta, .int kpt, .ref ma, .int mkd, .ref pa, .int tpd, .int at0, .int wel, .ref ba, .ref ka, .int srt, .ref fa, .ref qa, .ref ea, .ref za, .ref ya, .int wks])), (ra, .inl (cI, 7, .inl rf))]) hD hS hA [0, 1] rfl
          refine va_calli (va_runV (As := [.int (-4)]) (rest := []) ⟨hx, hb, hml, hown, hts⟩ (g_X5_no l D cI cL cZ cC _ g0 ra wa ta ma pa ba ka fa qa ea za ya kpt mkd tpd at0 wel srt wks rf (-4) (by first | assumption | decide +kernel) (by first | assumption | decide +kernel)) (cwV 1 hts gX5_others_X5_no rfl rfl rfl (by decide +kernel) ⟨Nat.le_of_ble_eq_true rfl, Nat.le_of_ble_eq_true rfl⟩) ⟨wPc_bl, va_recv hK hPc (ci := 5) (q0 := 0) rfl rfl, wPc_use hPc hK hDc⟩ rfl rfl hl.1 rfl (lv_room (Nat.le_of_ble_eq_true rfl)) dX5_others_21 ⟨Nat.le_of_ble_eq_true rfl, Nat.le_of_ble_eq_true rfl⟩) hS (fun q _ h => hFc q h) hFc (fun r_21 u_21 t H1 locs ht hvm hw hB hz1 hk1 hS => ?_)
          obtain ⟨hP1, hD1⟩ := hB
          rw [ht] at hP1
          obtain ⟨hP, hD⟩ := va_join (wr := []) (w1 := [(g0, .inr (5, [.ref ra, .ref wa, .ref ta, .int kpt, .ref ma, .int mkd, .ref pa, .int tpd, .int at0, .int wel, .ref ba, .ref ka, .int srt, .ref fa, .ref qa, .ref ea, .ref za, .ref ya, .int wks])), (ra, .inl (cI, 7, .inl (xRf rf (-4))))]) hP hD [0, 1] [] rfl rfl (by decide) (by decide) hk1 hFc hP1 hD1
          generalize H1 = H at hP hS ⊢
          have hP : va_P D vwCl [(g0, .inr (5, [.ref ra, .ref wa, .ref ta, .int kpt, .ref ma, .int mkd, .ref pa, .int tpd, .int at0, .int wel, .ref ba, .ref ka, .int srt, .ref fa, .ref qa, .ref ea, .ref za, .ref ya, .int wks])), (ra, .inl (cI, 7, .inl (xRf rf (-4))))] H := hP
          have hD : va_D A [(g0, .inr (5, [.ref ra, .ref wa, .ref ta, .int kpt, .ref ma, .int mkd, .ref pa, .int tpd, .int at0, .int wel, .ref ba, .ref ka, .int srt, .ref fa, .ref qa, .ref ea, .ref za, .ref ya, .int wks])), (ra, .inl (cI, 7, .inl (xRf rf (-4))))] := hD
          obtain rfl : ((-4) : Int32) = r_21 := Eq.symm hw
          have hP9 := hP.sub (ws' := [(g0, .inr (5, [.ref ra, .ref wa, .ref ta, .int kpt, .ref ma, .int mkd, .ref pa, .int tpd, .int at0, .int wel, .ref ba, .ref ka, .int srt, .ref fa, .ref qa, .ref ea, .ref za, .ref ya, .int wks])), (ra, .inl (cI, 7, .inl (xRf rf (-4))))]) [0, 1] rfl
          have hD9 := hD.sub (ws' := [(g0, .inr (5, [.ref ra, .ref wa, .ref ta, .int kpt, .ref ma, .int mkd, .ref pa, .int tpd, .int at0, .int wel, .ref ba, .ref ka, .int srt, .ref fa, .ref qa, .ref ea, .ref za, .ref ya, .int wks])), (ra, .inl (cI, 7, .inl (xRf rf (-4))))]) [0, 1] (by decide) rfl
          have hE9 : ([(g0, .inr (5, [.ref ra, .ref wa, .ref ta, .int kpt, .ref ma, .int mkd, .ref pa, .int tpd, .int at0, .int wel, .ref ba, .ref ka, .int srt, .ref fa, .ref qa, .ref ea, .ref za, .ref ya, .int wks])), (ra, .inl (cI, 7, .inl (xRf rf (-4))))] : va_W) = [(g0, .inr (5, [.ref ra, .ref wa, .ref ta, .int kpt, .ref ma, .int mkd, .ref pa, .int tpd, .int at0, .int wel, .ref ba, .ref ka, .int srt, .ref fa, .ref qa, .ref ea, .ref za, .ref ya, .int wks])), (ra, .inl (cI, 7, .inl (xRq rf (qOt a1 a2 a3 a4))))] := by simp [xRq, qOt, c_1, c_3, c_5, (Int32.not_le.mp c_7)]
          refine W.widen (k := 1) (n := 9) (Nat.le_of_ble_eq_true rfl) (Nat.le_of_ble_eq_true rfl) ?_
          exact W.iret (v := -4) hx hb hr (fun t ht hW => ⟨⟨_, (), rfl, by simp [qOt, c_1, c_3, c_5, (Int32.not_le.mp c_7)], by rw [ht]; exact hE9 ▸ hP9, hE9 ▸ hD9⟩, hS.F ht⟩) hS.2.2 dX5_others_24

/-! both readings agree: a statement's place -/
def xBF : Nat → Int32 := upd (upd (upd (upd (upd (upd (fun _ => 0) 0 115) 1 104) 2 112) 3 108) 4 101) 5 109
def xKF : Nat → Int32 := upd (upd (upd (upd (upd (fun _ => 0) 0 98) 1 110) 2 101) 3 114) 4 116
theorem xFg_D (lt : Nat → Int32) (len a : Nat) : xFg lt len (a, 1) = xIsD lt len a := by
  unfold xFg xIsD xAt
  dsimp only
  rw [if_neg (by decide : ¬ (1 : Int32) = 0)]
  by_cases h : a < len
  · simp only [if_pos h]
  · simp only [if_neg h]; rw [if_pos (by decide)]
theorem xIsD_lt {lt : Nat → Int32} {len a : Nat} (h : ¬ xIsD lt len a = 0) : a < len := by
  by_cases q : a < len
  · exact q
  · exfalso
    apply h
    unfold xIsD xAt
    rw [if_neg q, if_pos (by decide)]
theorem xIsD_dig {lt : Nat → Int32} {len a : Nat} (h : ¬ xIsD lt len a = 0) : ¬ lt a < 48 ∧ ¬ 57 < lt a := by
  have w := xIsD_lt h
  unfold xIsD xAt at h
  rw [if_pos w] at h
  by_cases h1 : lt a < 48
  · rw [if_pos h1] at h; exact absurd rfl h
  · rw [if_neg h1] at h
    by_cases h2 : 57 < lt a
    · rw [if_pos h2] at h; exact absurd rfl h
    · exact ⟨h1, h2⟩
theorem xSc_d {lt : Nat → Int32} {len a : Nat} (h : a < len) (hd : ¬ xIsD lt len a = 0) : xSc lt len (len - a) a = xSc lt len (len - (a + 1)) (a + 1) := by
  rw [show len - a = (len - (a + 1)) + 1 by omega]; simp only [xSc]; rw [if_neg hd]
theorem xSc_n {lt : Nat → Int32} {len a : Nat} (hd : xIsD lt len a = 0) : ∀ n, xSc lt len n a = a
  | 0 => rfl
  | n + 1 => by simp only [xSc]; rw [if_pos hd]
theorem xFc_min (lt : Nat → Int32) (len : Nat) : ∀ n a, xFc lt len 1 n a = min n (xSc lt len (len - a) a - a)
  | 0, a => by simp [xFc]
  | n + 1, a => by
    simp only [xFc]
    rw [xFg_D]
    by_cases q : xIsD lt len a = 0
    · rw [if_pos q, xSc_n q]; omega
    · have h := xIsD_lt q
      have g := (xSc_le lt len (len - (a + 1)) (a + 1)).1
      rw [if_neg q, xFc_min lt len n (a + 1), xSc_d h q]
      omega
theorem xSc_dig {lt : Nat → Int32} {len : Nat} : ∀ n e i, e ≤ i → i < xSc lt len n e → ¬ xIsD lt len i = 0
  | 0, e, i, h1, h2 => by simp only [xSc] at h2; omega
  | n + 1, e, i, h1, h2 => by
    simp only [xSc] at h2
    by_cases q : xIsD lt len e = 0
    · rw [if_pos q] at h2; omega
    · rw [if_neg q] at h2
      by_cases r : i = e
      · rw [r]; exact q
      · exact xSc_dig n (e + 1) i (by omega) h2
/-- so many figures from a place on -/
def xCn (lt : Nat → Int32) (len a : Nat) : Nat := xSc lt len (len - a) a - a
theorem xCn_dig {lt : Nat → Int32} {len a i : Nat} (h : i < xCn lt len a) : ¬ xIsD lt len (a + i) = 0 := by
  unfold xCn at h
  exact xSc_dig (len - a) a (a + i) (by omega) (by omega)
theorem xCn_s {lt : Nat → Int32} {len a : Nat} (h : 0 < xCn lt len a) : xCn lt len (a + 1) + 1 = xCn lt len a := by
  have q : ¬ xIsD lt len a = 0 := xCn_dig (i := 0) h
  have w := xIsD_lt q
  have g := (xSc_le lt len (len - (a + 1)) (a + 1)).1
  unfold xCn
  rw [xSc_d w q]
  omega
theorem xCn_add {lt : Nat → Int32} {len a : Nat} : ∀ k, k ≤ xCn lt len a → xCn lt len (a + k) + k = xCn lt len a
  | 0, _ => rfl
  | k + 1, h => by
    have e := xCn_add (lt := lt) (len := len) (a := a) k (by omega)
    have s := xCn_s (lt := lt) (len := len) (a := a + k) (by omega)
    rw [show a + (k + 1) = a + k + 1 by omega]
    omega
theorem xCn_z {lt : Nat → Int32} {len a : Nat} (h : len ≤ a) : xCn lt len a = 0 := by
  unfold xCn
  rw [show len - a = 0 by omega]
  show a - a = 0
  omega
theorem xDe_Cn (lt : Nat → Int32) (len p : Nat) : xDe lt len p = xDp lt len p + xCn lt len (xDp lt len p) := by
  have g := (xSc_le lt len (len - xDp lt len p) (xDp lt len p)).1
  unfold xDe xCn
  omega
theorem xPf_1 (lt : Nat → Int32) (len : Nat) (l : Int32) (m a : Nat) : xPf lt len l m (a, 1) = (a + min m (xCn lt len a), if nI (min m (xCn lt len a)) < l then 0 else 1) := by
  unfold xPf
  dsimp only
  rw [if_neg (by decide : ¬ (1 : Int32) = 0), xFc_min]
  rfl
theorem xFc_0 (lt : Nat → Int32) (len : Nat) : ∀ n a, xFc lt len 0 n a = 0
  | 0, _ => rfl
  | n + 1, a => by simp only [xFc]; rw [if_pos (by unfold xFg; dsimp only; rw [if_pos rfl])]
theorem xPf_0 (lt : Nat → Int32) (len : Nat) (l : Int32) (m a : Nat) : xPf lt len l m (a, 0) = (a, 0) := by
  unfold xPf
  dsimp only
  rw [if_pos rfl, xFc_0]
  rfl
theorem xQ_0 (lt : Nat → Int32) (len a : Nat) : ∀ n, xQ lt len (a, 0) n = (a, 0)
  | 0 => rfl
  | n + 1 => by simp only [xQ]; rw [xQ_0 lt len a n, xPf_0]
theorem xQ_1 (lt : Nat → Int32) (len a : Nat) : ∀ n, xQ lt len (a, 1) n = (a + min n (xCn lt len a), 1)
  | 0 => by simp [xQ]
  | n + 1 => by
    simp only [xQ]
    rw [xQ_1 lt len a n, xPf_1]
    by_cases h : n < xCn lt len a
    · have e := xCn_add (lt := lt) (len := len) (a := a) n (by omega)
      rw [show min n (xCn lt len a) = n by omega, show min 1 (xCn lt len (a + n)) = 1 by omega, show min (n + 1) (xCn lt len a) = n + 1 by omega, if_neg (by decide)]
      rfl
    · have e := xCn_add (lt := lt) (len := len) (a := a) (xCn lt len a) (Nat.le_refl _)
      rw [show min n (xCn lt len a) = xCn lt len a by omega, show min 1 (xCn lt len (a + xCn lt len a)) = 0 by omega, show min (n + 1) (xCn lt len a) = xCn lt len a by omega, if_neg (by decide)]
      rfl
/-- the three figures that must be there -/
theorem x3f (lt : Nat → Int32) (len a : Nat) : xPf lt len 1 1 (xPf lt len 1 1 (xPf lt len 1 1 (a, 1))) = if xCn lt len a < 3 then (a + xCn lt len a, 0) else (a + 3, 1) := by
  have one : ∀ b, xPf lt len 1 1 (b, 1) = if xCn lt len b = 0 then (b, 0) else (b + 1, 1) := by
    intro b
    rw [xPf_1]
    by_cases h : xCn lt len b = 0
    · rw [h, if_pos rfl, if_pos (by decide)]; rfl
    · rw [show min 1 (xCn lt len b) = 1 by omega, if_neg h, if_neg (by decide)]
  rw [one]
  by_cases h0 : xCn lt len a = 0
  · rw [if_pos h0, xPf_0, xPf_0, if_pos (by omega), h0]; rfl
  · have e1 := xCn_add (lt := lt) (len := len) (a := a) 1 (by omega)
    rw [if_neg h0, one]
    by_cases h1 : xCn lt len (a + 1) = 0
    · rw [if_pos h1, xPf_0, if_pos (by omega), show xCn lt len a = 1 by omega]
    · have e2 := xCn_add (lt := lt) (len := len) (a := a) 2 (by omega)
      rw [if_neg h1, one, show a + 1 + 1 = a + 2 by omega]
      by_cases h2 : xCn lt len (a + 2) = 0
      · rw [if_pos h2, if_pos (by omega), show xCn lt len a = 2 by omega]
      · rw [if_neg h2, if_neg (by omega)]
/-- what ends a statement -/
theorem xTail {lt : Nat → Int32} {len d m n : Nat} (hn : n = xCn lt len d) (hd : d ≤ len + 2) :
    (m < n → xPe lt len (d + m, 1) = (d + m, 0)) ∧ (xAt lt len (d + n) = 59 → xPe lt len (d + n, 1) = (d + n + 1, 1)) ∧ (¬ xAt lt len (d + n) = 59 → xPe lt len (d + n, 1) = (d + n, 0)) := by
  have h1 : ¬ (1 : Int32) = 0 := by decide
  refine ⟨fun h => ?_, fun h => ?_, fun h => ?_⟩
  · have q := xCn_dig (lt := lt) (len := len) (a := d) (i := m) (by omega)
    have w := xIsD_lt q
    have g := (xIsD_dig q).2
    exact xPe_3 (p := (d + m, 1)) h1 w (fun e => by dsimp only at e; rw [e] at g; exact g (by decide))
  · unfold xAt at h
    by_cases w : d + n < len
    · rw [if_pos w] at h; exact xPe_4 (p := (d + n, 1)) h1 w h
    · rw [if_neg w] at h; exact absurd h (by decide)
  · unfold xAt at h
    by_cases w : d + n < len
    · rw [if_pos w] at h; exact xPe_3 (p := (d + n, 1)) h1 w h
    · exact xPe_2 (p := (d + n, 1)) h1 w
theorem xBeg {lt : Nat → Int32} {len a k : Nat} (ha : a < len) (hk : k < 6) (h : lt a = xBF k) (hb : ∀ i, i < k → ¬ lt a = xBF i) : xSs lt len xBF (a, 1) = nI k ∧ xPn lt len xBF 6 (a, 1) = (a + 1, 1) := by
  have e := xPn_at (lt := lt) (tn := len) (f := xBF) (n := 6) (p := (a, 1)) hk (xFst_at (xOp_t (show ¬ (1 : Int32) = 0 by decide) ha h) (fun i hi => xOp_f3 (hb i hi)) 6 hk)
  exact ⟨e.2, e.1⟩
theorem xBegNo {lt : Nat → Int32} {len a : Nat} (h : a < len → ∀ i, i < 6 → ¬ lt a = xBF i) : xSs lt len xBF (a, 1) = 0 ∧ xPn lt len xBF 6 (a, 1) = (a, 0) := by
  have e := xPn_no (lt := lt) (tn := len) (f := xBF) (n := 6) (p := (a, 1)) (xFst_none 6 (fun i hi => by
    by_cases w : a < len
    · exact xOp_f3 (h w i hi)
    · exact xOp_f2 w))
  exact ⟨e.2, e.1⟩
theorem xKin {lt : Nat → Int32} {len a k : Nat} (ha : a < len) (hk : k < 5) (h : lt a = xKF k) (hb : ∀ i, i < k → ¬ lt a = xKF i) : xPv lt len xKF 5 (a, 1) = nI k ∧ xPn lt len xKF 5 (a, 1) = (a + 1, 1) := by
  have e := xPn_at (lt := lt) (tn := len) (f := xKF) (n := 5) (p := (a, 1)) hk (xFst_at (xOp_t (show ¬ (1 : Int32) = 0 by decide) ha h) (fun i hi => xOp_f3 (hb i hi)) 5 hk)
  exact ⟨e.2, e.1⟩
theorem xKinNo {lt : Nat → Int32} {len a : Nat} (h : a < len → ∀ i, i < 5 → ¬ lt a = xKF i) : xPn lt len xKF 5 (a, 1) = (a, 0) := by
  have e := xPn_no (lt := lt) (tn := len) (f := xKF) (n := 5) (p := (a, 1)) (xFst_none 5 (fun i hi => by
    by_cases w : a < len
    · exact xOp_f3 (h w i hi)
    · exact xOp_f2 w))
  exact e.1
/-- letters are bytes -/
def xByt (lt : Nat → Int32) (len : Nat) : Prop := ∀ i, i < len → ∃ k, lt i = nI k ∧ k ≤ 255
theorem xI2c {k : Nat} (h : k ≤ 255) : ((nI k).toUInt32 % 65536).toInt32 = nI k := lg_i2c_word (by rw [nI_toInt (by omega)]; omega) (by rw [nI_toInt (by omega)]; omega)
/-- the kind's letter: as the class sees it, as the reference does -/
theorem xKd_in {lt : Nat → Int32} {len a : Nat} (hB : xByt lt len) : (xKd lt len a < 0 ∧ xPn lt len xKF 5 (a, 1) = (a, 0)) ∨ (¬ xKd lt len a < 0 ∧ xPn lt len xKF 5 (a, 1) = (a + 1, 1) ∧ xPv lt len xKF 5 (a, 1) = xKd lt len a ∧ a < len) := by
  by_cases w : a < len
  · obtain ⟨k, ek, hk⟩ := hB a w
    have ea : xAt lt len a = nI k := by unfold xAt; rw [if_pos w]; exact ek
    have e : xKd lt len a = xKi (nI k) := by unfold xKd; rw [ea, if_neg (nI_pos (by omega)), xI2c hk]
    rw [e]
    have key : ∀ i v, i < 5 → xKF i = v → (∀ j, j < i → ¬ v = xKF j) → lt a = v → (xPn lt len xKF 5 (a, 1) = (a + 1, 1) ∧ xPv lt len xKF 5 (a, 1) = nI i) := fun i v hi hv hj hl => by
      have q := xKin w hi (hl.trans hv.symm) (fun j hj2 => by rw [hl]; exact hj j hj2)
      exact ⟨q.2, q.1⟩
    by_cases h0 : lt a = 98
    · have q := key 0 98 (by decide) rfl (fun j hj => absurd hj (Nat.not_lt_zero j)) h0
      right; rw [← ek, h0]; exact ⟨by decide, q.1, q.2, w⟩
    by_cases h1 : lt a = 110
    · have q := key 1 110 (by decide) rfl (by decide) h1
      right; rw [← ek, h1]; exact ⟨by decide, q.1, q.2, w⟩
    by_cases h2 : lt a = 101
    · have q := key 2 101 (by decide) rfl (by decide) h2
      right; rw [← ek, h2]; exact ⟨by decide, q.1, q.2, w⟩
    by_cases h3 : lt a = 114
    · have q := key 3 114 (by decide) rfl (by decide) h3
      right; rw [← ek, h3]; exact ⟨by decide, q.1, q.2, w⟩
    by_cases h4 : lt a = 116
    · have q := key 4 116 (by decide) rfl (by decide) h4
      right; rw [← ek, h4]; exact ⟨by decide, q.1, q.2, w⟩
    left
    refine ⟨by rw [← ek]; unfold xKi; rw [if_neg h0, if_neg h1, if_neg h2, if_neg h3, if_neg h4]; decide, xKinNo (fun _ i hi => ?_)⟩
    rcases (show i = 0 ∨ i = 1 ∨ i = 2 ∨ i = 3 ∨ i = 4 by omega) with rfl | rfl | rfl | rfl | rfl
    · exact h0
    · exact h1
    · exact h2
    · exact h3
    · exact h4
  · left
    refine ⟨by unfold xKd xAt; rw [if_neg w, if_pos (by decide)]; decide, xKinNo (fun h => absurd h w)⟩

/-! both readings agree: where a statement is wrong -/
theorem xCn_le {lt : Nat → Int32} {len a : Nat} (h : a ≤ len) : a + xCn lt len a ≤ len := by
  have g := (xSc_le lt len (len - a) a).2
  have g2 := (xSc_le lt len (len - a) a).1
  unfold xCn
  omega
theorem xWp2_e {lt : Nat → Int32} {len a m l : Nat} (hlen : len ≤ 96) (hd : xDp lt len a ≤ len) (hm : sMd (xAt lt len a) = nI m) (hl : sLd (xAt lt len a) = nI l) (hm9 : m ≤ 20) (hl9 : l ≤ 20) :
    xWp2 lt len a = if m < xCn lt len (xDp lt len a) then nI (xDp lt len a + m) else if xCn lt len (xDp lt len a) < l then nI (xDp lt len a + xCn lt len (xDp lt len a)) else if xAt lt len (xDp lt len a + xCn lt len (xDp lt len a)) = 59 then -1 else nI (xDp lt len a + xCn lt len (xDp lt len a)) := by
  have hn := xCn_le (lt := lt) hd
  unfold xWp2
  rw [hm, hl, xDe_Cn, show xDp lt len a + xCn lt len (xDp lt len a) - xDp lt len a = xCn lt len (xDp lt len a) by omega]
  by_cases h1 : m < xCn lt len (xDp lt len a)
  · rw [if_pos ((nI_ltI (by omega) (by omega)).mpr h1), if_pos h1, nI_add]
  · rw [if_neg (mt (nI_ltI (by omega) (by omega)).mp h1), if_neg h1]
    by_cases h2 : xCn lt len (xDp lt len a) < l
    · rw [if_pos ((nI_ltI (by omega) (by omega)).mpr h2), if_pos h2]
    · rw [if_neg (mt (nI_ltI (by omega) (by omega)).mp h2), if_neg h2]
/-- one statement, both ways: all well and to the same end, or wrong at the same place -/
def xAg (lt : Nat → Int32) (len a : Nat) : Prop := (xWp lt len a < 0 ∧ xSp lt len xBF xKF (a, 1) = (xDe lt len a + 1, 1) ∧ xDe lt len a < len) ∨ (∃ w, w ≤ len ∧ xWp lt len a = nI w ∧ xSp lt len xBF xKF (a, 1) = (w, 0))
theorem xComb {lt : Nat → Int32} {len a d m l : Nat} (hdl : d ≤ len) (hlm : l ≤ m) (hde : xDe lt len a = d + xCn lt len d)
    (hS : xSp lt len xBF xKF (a, 1) = xPe lt len (d + min m (xCn lt len d), if min m (xCn lt len d) < l then 0 else 1))
    (hW : xWp lt len a = if m < xCn lt len d then nI (d + m) else if xCn lt len d < l then nI (d + xCn lt len d) else if xAt lt len (d + xCn lt len d) = 59 then -1 else nI (d + xCn lt len d)) : xAg lt len a := by
  have hn := xCn_le (lt := lt) hdl
  have ht := xTail (lt := lt) (len := len) (d := d) (m := m) rfl (by omega)
  by_cases h1 : m < xCn lt len d
  · right
    rw [if_pos h1] at hW
    rw [show min m (xCn lt len d) = m by omega, if_neg (by omega), ht.1 h1] at hS
    exact ⟨d + m, by omega, hW, hS⟩
  · rw [if_neg h1] at hW
    rw [show min m (xCn lt len d) = xCn lt len d by omega] at hS
    by_cases h2 : xCn lt len d < l
    · right
      rw [if_pos h2] at hW hS
      rw [xPe_1 rfl] at hS
      exact ⟨d + xCn lt len d, hn, hW, hS⟩
    · rw [if_neg h2] at hW hS
      by_cases h3 : xAt lt len (d + xCn lt len d) = 59
      · left
        rw [if_pos h3] at hW
        rw [ht.2.1 h3] at hS
        have hlt : d + xCn lt len d < len := by
          by_cases w : d + xCn lt len d < len
          · exact w
          · unfold xAt at h3; rw [if_neg w] at h3; exact absurd h3 (by decide)
        exact ⟨by rw [hW]; decide, by rw [hde]; exact hS, by rw [hde]; exact hlt⟩
      · right
        rw [if_neg h3] at hW
        rw [ht.2.2 h3] at hS
        exact ⟨d + xCn lt len d, hn, hW, hS⟩
theorem xSimple {lt : Nat → Int32} {len a k m l : Nat} (hs : xSs lt len xBF (a, 1) = nI k) (hp : xPn lt len xBF 6 (a, 1) = (a + 1, 1)) (hk3 : ¬ nI k = 3) (hl : xLl (nI k) = nI l) (hm : xLm9 (nI k) = m) (hm9 : m ≤ 20) (hl9 : l ≤ 20) :
    xSp lt len xBF xKF (a, 1) = xPe lt len (a + 1 + min m (xCn lt len (a + 1)), if min m (xCn lt len (a + 1)) < l then 0 else 1) := by
  unfold xSp
  rw [hs, if_neg hk3, hp, hl, hm, xPf_1]
  by_cases q : min m (xCn lt len (a + 1)) < l
  · rw [if_pos q, if_pos ((nI_ltI (by omega) (by omega)).mpr q)]
  · rw [if_neg q, if_neg (mt (nI_ltI (by omega) (by omega)).mp q)]
theorem xAg_s {lt : Nat → Int32} {len a k m l : Nat} (hlen : len ≤ 96) (ha : a < len) (h108 : ¬ xAt lt len a = 108) (hs : xSs lt len xBF (a, 1) = nI k) (hp : xPn lt len xBF 6 (a, 1) = (a + 1, 1)) (hk3 : ¬ nI k = 3) (hl : xLl (nI k) = nI l) (hm : xLm9 (nI k) = m)
    (hm2 : sMd (xAt lt len a) = nI m) (hl2 : sLd (xAt lt len a) = nI l) (hm0 : 0 < m) (hm9 : m ≤ 20) (hlm : l ≤ m) : xAg lt len a := by
  have hd : xDp lt len a = a + 1 := by unfold xDp; rw [if_neg h108]
  refine xComb (d := a + 1) (m := m) (l := l) (by omega) hlm (by rw [xDe_Cn, hd]) (xSimple hs hp hk3 hl hm hm9 (by omega)) ?_
  unfold xWp
  have e := xWp2_e (lt := lt) (m := m) (l := l) hlen (by rw [hd]; omega) hm2 hl2 hm9 (by omega)
  rw [hd] at e
  rw [if_neg (by rw [hm2]; exact nI_ne0 hm0 (by omega)), hd, if_neg (mt (nI_ltI (by omega) (by omega)).mp (Nat.lt_irrefl _)), e]
theorem xAg_no {lt : Nat → Int32} {len a : Nat} (hal : a ≤ len) (h : a < len → ∀ i, i < 6 → ¬ lt a = xBF i) (hm : sMd (xAt lt len a) = 0) : xAg lt len a := by
  right
  have e := xBegNo h
  refine ⟨a, hal, by unfold xWp; rw [if_pos hm], ?_⟩
  unfold xSp
  rw [e.1, e.2, if_neg (by decide), xPf_0, xPe_1 rfl]
theorem xAg_l {lt : Nat → Int32} {len a : Nat} (hB : xByt lt len) (hlen : len ≤ 96) (ha : a < len) (hc : lt a = 108) : xAg lt len a := by
  have eA : xAt lt len a = 108 := by unfold xAt; rw [if_pos ha]; exact hc
  have hd : xDp lt len a = a + 2 := by unfold xDp; rw [if_pos eA]
  have eB := xBeg (lt := lt) (len := len) (a := a) (k := 3) ha (by decide) hc (fun i hi => by rw [hc]; rcases (show i = 0 ∨ i = 1 ∨ i = 2 by omega) with rfl | rfl | rfl <;> decide)
  have e3 : xSs lt len xBF (a, 1) = 3 := eB.1
  have hw1 : nI (a + 1) < nI (xDp lt len a) := by rw [hd]; exact (nI_ltI (by omega) (by omega)).mpr (by omega)
  have hsm : ¬ sMd (xAt lt len a) = 0 := by rw [eA]; decide
  rcases xKd_in (lt := lt) (len := len) (a := a + 1) hB with ⟨k1, k2⟩ | ⟨k1, k2, k3, k4⟩
  · right
    refine ⟨a + 1, by omega, by unfold xWp; rw [if_neg hsm, if_pos hw1, if_pos k1], ?_⟩
    unfold xSp x5p
    rw [e3, if_pos rfl, eB.2, k2, xPf_0, xPf_0, xPf_0, xQ_0, xPe_1 rfl]
  · refine xComb (d := a + 2) (m := 14) (l := 3) (by omega) (by decide) (by rw [xDe_Cn, hd]) ?_ ?_
    · unfold xSp x5p
      rw [e3, if_pos rfl, eB.2, k2, show a + 1 + 1 = a + 2 by omega, x3f]
      by_cases h3 : xCn lt len (a + 2) < 3
      · rw [if_pos h3, xQ_0, if_pos (by omega), show min 14 (xCn lt len (a + 2)) = xCn lt len (a + 2) by omega]
      · have e4 := xCn_add (lt := lt) (len := len) (a := a + 2) 3 (by omega)
        rw [if_neg h3, xQ_1, if_neg (by omega), show a + 2 + 3 + min 11 (xCn lt len (a + 2 + 3)) = a + 2 + min 14 (xCn lt len (a + 2)) by omega]
    · have e := xWp2_e (lt := lt) (a := a) (m := 14) (l := 3) hlen (by rw [hd]; omega) (by rw [eA]; decide) (by rw [eA]; decide) (by decide) (by decide)
      rw [hd] at e
      unfold xWp
      rw [if_neg hsm, if_pos hw1, if_neg k1, e]
theorem xAgree {lt : Nat → Int32} {len a : Nat} (hB : xByt lt len) (hlen : len ≤ 96) (hal : a ≤ len) : xAg lt len a := by
  by_cases w : a < len
  · have eA : xAt lt len a = lt a := by unfold xAt; rw [if_pos w]
    by_cases h0 : lt a = 115
    · have e := xBeg (k := 0) w (by decide) h0 (fun i hi => absurd hi (Nat.not_lt_zero i))
      exact xAg_s (k := 0) (m := 3) (l := 1) hlen w (by rw [eA, h0]; decide) e.1 e.2 (by decide) rfl rfl (by rw [eA, h0]; decide) (by rw [eA, h0]; decide) (by decide) (by decide) (by decide)
    by_cases h1 : lt a = 104
    · have e := xBeg (k := 1) w (by decide) h1 (fun i hi => by rw [h1]; rcases (show i = 0 by omega) with rfl; decide)
      exact xAg_s (k := 1) (m := 3) (l := 1) hlen w (by rw [eA, h1]; decide) e.1 e.2 (by decide) rfl rfl (by rw [eA, h1]; decide) (by rw [eA, h1]; decide) (by decide) (by decide) (by decide)
    by_cases h2 : lt a = 112
    · have e := xBeg (k := 2) w (by decide) h2 (fun i hi => by rw [h2]; rcases (show i = 0 ∨ i = 1 by omega) with rfl | rfl <;> decide)
      exact xAg_s (k := 2) (m := 3) (l := 2) hlen w (by rw [eA, h2]; decide) e.1 e.2 (by decide) rfl rfl (by rw [eA, h2]; decide) (by rw [eA, h2]; decide) (by decide) (by decide) (by decide)
    by_cases h3 : lt a = 108
    · exact xAg_l hB hlen w h3
    by_cases h4 : lt a = 101
    · have e := xBeg (k := 4) w (by decide) h4 (fun i hi => by rw [h4]; rcases (show i = 0 ∨ i = 1 ∨ i = 2 ∨ i = 3 by omega) with rfl | rfl | rfl | rfl <;> decide)
      exact xAg_s (k := 4) (m := 1) (l := 1) hlen w (by rw [eA, h4]; decide) e.1 e.2 (by decide) rfl rfl (by rw [eA, h4]; decide) (by rw [eA, h4]; decide) (by decide) (by decide) (by decide)
    by_cases h5 : lt a = 109
    · have e := xBeg (k := 5) w (by decide) h5 (fun i hi => by rw [h5]; rcases (show i = 0 ∨ i = 1 ∨ i = 2 ∨ i = 3 ∨ i = 4 by omega) with rfl | rfl | rfl | rfl | rfl <;> decide)
      exact xAg_s (k := 5) (m := 2) (l := 1) hlen w (by rw [eA, h5]; decide) e.1 e.2 (by decide) rfl rfl (by rw [eA, h5]; decide) (by rw [eA, h5]; decide) (by decide) (by decide) (by decide)
    refine xAg_no hal (fun _ i hi => ?_) (by rw [eA]; unfold sMd; rw [if_neg h0, if_neg h1, if_neg h2, if_neg h3, if_neg h4, if_neg h5])
    rcases (show i = 0 ∨ i = 1 ∨ i = 2 ∨ i = 3 ∨ i = 4 ∨ i = 5 by omega) with rfl | rfl | rfl | rfl | rfl | rfl
    · exact h0
    · exact h1
    · exact h2
    · exact h3
    · exact h4
    · exact h5
  · exact xAg_no hal (fun h => absurd h w) (by unfold xAt; rw [if_neg w]; decide)

/-! both readings agree: what a statement brings -/
theorem xIsD_Cn {lt : Nat → Int32} {len b : Nat} : xIsD lt len b = 0 ↔ xCn lt len b = 0 := by
  constructor
  · intro h
    unfold xCn
    rw [xSc_n h]
    omega
  · intro h
    by_cases q : xIsD lt len b = 0
    · exact q
    · have w := xIsD_lt q
      have g := (xSc_le lt len (len - (b + 1)) (b + 1)).1
      unfold xCn at h
      rw [xSc_d w q] at h
      omega
theorem xDg_dig {lt : Nat → Int32} {len b : Nat} (h : ¬ xIsD lt len b = 0) : xDg lt len b = lt b - 48 := by
  unfold xDg
  rw [if_neg h]
  unfold xAt
  rw [if_pos (xIsD_lt h)]
theorem xPw1 (lt : Nat → Int32) (len b : Nat) : xPw lt len 1 (b, 1) = xDg lt len b := by
  show xFv lt b (xFc lt len 1 1 b) = _
  rw [xFc_min]
  by_cases h : xIsD lt len b = 0
  · have e := xIsD_Cn.mp h
    unfold xCn at e
    rw [show min 1 (xSc lt len (len - b) b - b) = 0 by omega]
    unfold xDg
    rw [if_pos h]
    rfl
  · have e := mt xIsD_Cn.mpr h
    unfold xCn at e
    rw [show min 1 (xSc lt len (len - b) b - b) = 1 by omega, xDg_dig h]
    show 10 * 0 + lt (b + 0) - 48 = _
    rw [Int32.mul_zero, Int32.zero_add]
    rfl
theorem xPf11 {lt : Nat → Int32} {len b : Nat} (h : 0 < xCn lt len b) : xPf lt len 1 1 (b, 1) = (b + 1, 1) := by
  rw [xPf_1, show min 1 (xCn lt len b) = 1 by omega, if_neg (by decide)]
theorem xFv_Nu {lt : Nat → Int32} {len d : Nat} : ∀ k, k ≤ xCn lt len d → xFv lt d k = xNu lt len d k
  | 0, _ => rfl
  | k + 1, h => by
    have e := xFv_Nu (lt := lt) (len := len) (d := d) k (by omega)
    have q := xCn_dig (lt := lt) (len := len) (a := d) (i := k) (by omega)
    show 10 * xFv lt d k + lt (d + k) - 48 = xNu lt len d k * 10 + xDg lt len (d + k)
    rw [e, xDg_dig q, Int32.mul_comm, Int32.sub_eq_add_neg, Int32.sub_eq_add_neg, Int32.add_assoc]
theorem xNm_v {lt : Nat → Int32} {len a m : Nat} (hd : xDp lt len a = a + 1) (hm : xCn lt len (a + 1) ≤ m) (hm3 : m ≤ 3) : xPw lt len m (a + 1, 1) = xNm lt len a ∧ ∃ u, xNm lt len a = nI u ∧ u < 10 ^ (xCn lt len (a + 1)) := by
  have e1 : xNm lt len a = xNu lt len (a + 1) (xCn lt len (a + 1)) := by
    unfold xNm
    rw [xDe_Cn, hd, show a + 1 + xCn lt len (a + 1) - (a + 1) = xCn lt len (a + 1) by omega]
  have e2 := xFv_Nu (lt := lt) (len := len) (d := a + 1) (xCn lt len (a + 1)) (Nat.le_refl _)
  refine ⟨?_, ?_⟩
  · show xFv lt (a + 1) (xFc lt len 1 m (a + 1)) = _
    rw [xFc_min]
    have e3 : min m (xSc lt len (len - (a + 1)) (a + 1) - (a + 1)) = xCn lt len (a + 1) := by
      have : xSc lt len (len - (a + 1)) (a + 1) - (a + 1) = xCn lt len (a + 1) := rfl
      omega
    rw [e3, e2, e1]
  · obtain ⟨v, ev, hv⟩ := xFv_b (lt := lt) (a := a + 1) (xCn lt len (a + 1)) (by omega) (fun i hi => xIsD_dig (xCn_dig hi))
    exact ⟨v, by rw [e1, ← e2]; exact ev, hv⟩
/-- the class's road against the reference's row -/
def xRel (T : xT) (nw : Nat → Int32) : Prop :=
  (nw 0 = nI T.1 ∧ nw 3 = nI T.2.1) ∧ (nw 1 = T.2.2.1 ∧ nw 2 = T.2.2.2.1 ∧ nw 4 = T.2.2.2.2.1 ∧ nw 5 = T.2.2.2.2.2.1) ∧ (∀ j, j < T.1 → nw (10 + j) = T.2.2.2.2.2.2.1 j) ∧
  (∀ j, j < T.2.1 → nw (20 + 16 * j) = T.2.2.2.2.2.2.2.1 j ∧ nw (20 + 16 * j + 1) = T.2.2.2.2.2.2.2.2.1 j ∧ nw (20 + 16 * j + 2) = T.2.2.2.2.2.2.2.2.2.1 j ∧ ∀ t, t < 12 → nw (20 + 16 * j + (3 + t)) = T.2.2.2.2.2.2.2.2.2.2 j t)
theorem xRel_u {st ln : Nat} {ho pa si li ho' pa' si' li' : Int32} {lg ki ru ne nw nw' : Nat → Int32} {ch : Nat → Nat → Int32} (h : xRel (st, ln, ho, pa, si, li, lg, ki, ru, ne, ch) nw) (hu : ∀ i, (i = 0 ∨ i = 3 ∨ 10 ≤ i) → nw' i = nw i) (h1 : nw' 1 = ho') (h2 : nw' 2 = pa') (h4 : nw' 4 = si') (h5 : nw' 5 = li') : xRel (st, ln, ho', pa', si', li', lg, ki, ru, ne, ch) nw' := by
  obtain ⟨⟨a1, a2⟩, -, c, d⟩ := h
  refine ⟨⟨(hu 0 (by omega)).trans a1, (hu 3 (by omega)).trans a2⟩, ⟨h1, h2, h4, h5⟩, fun j hj => (hu _ (by omega)).trans (c j hj), fun j hj => ?_⟩
  obtain ⟨d1, d2, d3, d4⟩ := d j hj
  exact ⟨(hu _ (by omega)).trans d1, (hu _ (by omega)).trans d2, (hu _ (by omega)).trans d3, fun t ht => (hu _ (by omega)).trans (d4 t ht)⟩
/-- what one statement brings, both ways -/
def xSt (lt : Nat → Int32) (len a : Nat) (T : xT) (fa : Nat → Int32) : Prop :=
  (xMb (xSs lt len xBF (a, 1)) (xSf lt len xBF xKF fa (a, 1)) (nI T.1) (nI T.2.1) = 0 ↔ (xTS lt len a T).2 = 0) ∧
  (¬ (xTS lt len a T).2 = 0 → (xTS lt len a T).1.1 = T.1 + xN0 (xSs lt len xBF (a, 1)) ∧ (xTS lt len a T).1.2.1 = T.2.1 + xN3 (xSs lt len xBF (a, 1)) ∧
    ∀ nw, xRel T nw → xRel (xTS lt len a T).1 (xCm (xSs lt len xBF (a, 1)) (xSf lt len xBF xKF fa (a, 1)) nw T.1 T.2.1))
/-- of the five with a number -/
theorem xSf_s {lt : Nat → Int32} {len a k m : Nat} {fa : Nat → Int32} (hs : xSs lt len xBF (a, 1) = nI k) (hp : xPn lt len xBF 6 (a, 1) = (a + 1, 1)) (hk3 : ¬ nI k = 3) (hm : xLm9 (nI k) = m) (hd : xDp lt len a = a + 1) (hn : xCn lt len (a + 1) ≤ m) (hm3 : m ≤ 3) :
    xSf lt len xBF xKF fa (a, 1) 0 = xNm lt len a := by
  unfold xSf
  rw [hs, if_neg hk3, pk_us, hm, hp]
  exact (xNm_v hd hn hm3).1
theorem xGood {lt : Nat → Int32} {len a m l : Nat} (hlen : len ≤ 96) (hd : xDp lt len a ≤ len) (hm : sMd (xAt lt len a) = nI m) (hl : sLd (xAt lt len a) = nI l) (hm9 : m ≤ 20) (hl9 : l ≤ 20) (hW : xWp2 lt len a < 0) : xCn lt len (xDp lt len a) ≤ m ∧ l ≤ xCn lt len (xDp lt len a) := by
  have hn := xCn_le (lt := lt) hd
  rw [xWp2_e hlen hd hm hl hm9 hl9] at hW
  by_cases h1 : m < xCn lt len (xDp lt len a)
  · rw [if_pos h1] at hW; exact absurd hW (nI_pos (by omega))
  · rw [if_neg h1] at hW
    by_cases h2 : xCn lt len (xDp lt len a) < l
    · rw [if_pos h2] at hW; exact absurd hW (nI_pos (by omega))
    · exact ⟨by omega, by omega⟩
theorem xPos {u : Nat} (h : u < 2 ^ 31) : (0 < nI u ↔ ¬ nI u < 1) := by
  rw [show (0 : Int32) = nI 0 from rfl, show (1 : Int32) = nI 1 from rfl, nI_ltI (by decide) h, nI_ltI h (by decide)]
  omega
theorem xSt_s {lt : Nat → Int32} {len a : Nat} {T : xT} {fa : Nat → Int32} (hlen : len ≤ 96) (ha : a < len) (hc : lt a = 115) (hW : xWp lt len a < 0) (h7 : T.1 ≤ 7) : xSt lt len a T fa := by
  have eA : xAt lt len a = 115 := by unfold xAt; rw [if_pos ha]; exact hc
  have hd : xDp lt len a = a + 1 := by unfold xDp; rw [eA, if_neg (by decide)]
  have eB := xBeg (lt := lt) (len := len) (a := a) (k := 0) ha (by decide) hc (fun i hi => absurd hi (Nat.not_lt_zero i))
  have hW2 : xWp2 lt len a < 0 := by
    unfold xWp at hW
    rw [if_neg (by rw [eA]; decide), hd, if_neg (mt (nI_ltI (by omega) (by omega)).mp (Nat.lt_irrefl _))] at hW
    exact hW
  have hg := xGood (m := 3) (l := 1) hlen (by omega) (by rw [eA]; decide) (by rw [eA]; decide) (by decide) (by decide) hW2
  rw [hd] at hg
  obtain ⟨hv, u, eu, hu⟩ := xNm_v (lt := lt) (len := len) (m := 3) hd hg.1 (by decide)
  have hu9 : u < 1000 := Nat.lt_of_lt_of_le hu (Nat.pow_le_pow_right (by decide) hg.1)
  have hf := xSf_s (fa := fa) (m := 3) eB.1 eB.2 (by decide) rfl hd hg.1 (by decide)
  have h0 : xSs lt len xBF (a, 1) = 0 := eB.1
  obtain ⟨st, ln, ho, pa, si, li, lg, ki, ru, ne, ch⟩ := T
  have h7 : st ≤ 7 := h7
  have e9 : ¬ 999 < nI u := mt (nI_ltI (a := 999) (b := u) (by decide) (by omega)).mp (by omega)
  have eT : xTS lt len a (st, ln, ho, pa, si, li, lg, ki, ru, ne, ch) = ((xAsN st (nI u), ln, ho, pa, si, li, xAsL st (nI u) lg, ki, ru, ne, ch), sAs st (nI u)) := by
    simp only [xTS]; rw [if_pos eA, eu]
  unfold xSt
  rw [eT, h0]
  dsimp only
  unfold xMb sAs xAsN xAsL
  rw [if_neg (by decide), if_pos rfl, hf, eu]
  by_cases p1 : nI u < 1
  · rw [if_pos p1, if_neg (fun w => (xPos (by omega)).mp w p1)]
    exact ⟨⟨fun _ => rfl, fun _ => rfl⟩, fun h => absurd rfl h⟩
  · rw [if_neg p1, if_pos ((xPos (by omega)).mpr p1), if_neg e9]
    by_cases p2 : st < 7
    · rw [if_pos p2, if_pos (show nI st < 7 from (nI_ltI (a := st) (b := 7) (by omega) (by decide)).mpr p2), if_neg p1, if_neg e9, if_pos p2, if_neg p1, if_neg e9, if_pos p2]
      refine ⟨⟨fun h => absurd h (by decide), fun h => absurd h (by decide)⟩, fun _ => ⟨rfl, rfl, fun nw hR => ?_⟩⟩
      obtain ⟨⟨a1, a2⟩, ⟨b1, b2, b3, b4⟩, g, d⟩ := hR
      unfold xCm
      rw [if_pos rfl, hf, eu]
      dsimp only at a1 a2 b1 b2 b3 b4 g d
      have o : ∀ i, ¬ i = 0 → ¬ i = 10 + st → upd (upd nw (10 + st) (nI u)) 0 (nI (st + 1)) i = nw i := fun i h1 h2 => by rw [pk_un h1, pk_un h2]
      refine ⟨⟨pk_us, (o 3 (by decide) (by omega)).trans a2⟩, ⟨(o 1 (by decide) (by omega)).trans b1, (o 2 (by decide) (by omega)).trans b2, (o 4 (by decide) (by omega)).trans b3, (o 5 (by decide) (by omega)).trans b4⟩, fun j hj => ?_, fun j hj => ?_⟩
      · dsimp only at hj ⊢
        by_cases q : j = st
        · subst q; rw [pk_un (by omega), pk_us, pk_us]
        · rw [o (10 + j) (by omega) (by omega), pk_un q]; exact g j (by omega)
      · obtain ⟨d1, d2, d3, d4⟩ := d j hj
        exact ⟨(o _ (by omega) (by omega)).trans d1, (o _ (by omega) (by omega)).trans d2, (o _ (by omega) (by omega)).trans d3, fun t ht => (o _ (by omega) (by omega)).trans (d4 t ht)⟩
    · rw [if_neg p2, if_neg (show ¬ nI st < 7 from mt (nI_ltI (a := st) (b := 7) (by omega) (by decide)).mp p2)]
      exact ⟨⟨fun _ => rfl, fun _ => rfl⟩, fun h => absurd rfl h⟩
/-- a setting: q its number, k its sort, i its place in the row -/
theorem xSt_c {lt : Nat → Int32} {len a k m l : Nat} {c0 q : Int32} {T : xT} {fa : Nat → Int32} (hlen : len ≤ 96) (ha : a < len) (hc : lt a = c0) (hW : xWp lt len a < 0) (h108 : ¬ c0 = 108) (eB : xSs lt len xBF (a, 1) = nI k ∧ xPn lt len xBF 6 (a, 1) = (a + 1, 1)) (hk3 : ¬ nI k = 3) (hk0 : ¬ nI k = 0)
    (hm : sMd c0 = nI m) (hl : sLd c0 = nI l) (hm9 : xLm9 (nI k) = m) (hm3 : m ≤ 3) (hm0 : 0 < m) (hl9 : l ≤ 20)
    (hT : ∀ T : xT, xTS lt len a T = ((T.1, T.2.1, xCg q (xNm lt len a) 0 T.2.2.1, xCg q (xNm lt len a) 1 T.2.2.2.1, xCg q (xNm lt len a) 2 T.2.2.2.2.1, xCl q (xNm lt len a) T.2.2.2.2.2.1, T.2.2.2.2.2.2), sCh q (xNm lt len a)))
    (hM : ∀ (u : Nat) (f : Nat → Int32) (s l9 : Int32), u < 10 ^ m → f 0 = nI u → (xMb (nI k) f s l9 = 0 ↔ sCh q (nI u) = 0))
    (hR : ∀ (u : Nat) (f nw : Nat → Int32) (T : xT), ¬ sCh q (nI u) = 0 → f 0 = nI u → xRel T nw → xRel (T.1, T.2.1, xCg q (nI u) 0 T.2.2.1, xCg q (nI u) 1 T.2.2.2.1, xCg q (nI u) 2 T.2.2.2.2.1, xCl q (nI u) T.2.2.2.2.2.1, T.2.2.2.2.2.2) (xCm (nI k) f nw T.1 T.2.1)) : xSt lt len a T fa := by
  have eA : xAt lt len a = c0 := by unfold xAt; rw [if_pos ha]; exact hc
  have hd : xDp lt len a = a + 1 := by unfold xDp; rw [eA, if_neg h108]
  have hW2 : xWp2 lt len a < 0 := by
    unfold xWp at hW
    rw [if_neg (by rw [eA, hm]; exact nI_ne0 hm0 (by omega)), hd, if_neg (mt (nI_ltI (by omega) (by omega)).mp (Nat.lt_irrefl _))] at hW
    exact hW
  have hg := xGood (m := m) (l := l) hlen (by omega) (by rw [eA]; exact hm) (by rw [eA]; exact hl) (by omega) hl9 hW2
  rw [hd] at hg
  obtain ⟨hv, u, eu, hu⟩ := xNm_v (lt := lt) (len := len) (m := m) hd hg.1 hm3
  have hu9 : u < 10 ^ m := Nat.lt_of_lt_of_le hu (Nat.pow_le_pow_right (by decide) hg.1)
  have hf := xSf_s (fa := fa) (m := m) eB.1 eB.2 hk3 hm9 hd hg.1 hm3
  rw [eu] at hf
  unfold xSt
  rw [hT T, eB.1, eu]
  dsimp only
  refine ⟨hM u _ _ _ hu9 hf, fun h => ⟨by unfold xN0; rw [if_neg hk0]; rfl, by unfold xN3; rw [if_neg hk3]; rfl, fun nw hr => hR u _ nw T h hf hr⟩⟩

/-! both readings agree: settings, lines, any statement -/
theorem sCh_in {q v : Int32} (h : ¬ sCh q v = 0) : ¬ v < sLe q ∧ ¬ sMo q < v := by
  unfold sCh at h
  by_cases h1 : v < sLe q
  · rw [if_pos h1] at h; exact absurd rfl h
  · rw [if_neg h1] at h
    by_cases h2 : sMo q < v
    · rw [if_pos h2] at h; exact absurd rfl h
    · exact ⟨h1, h2⟩
theorem sCh_u {q : Int32} {u b : Nat} (hl : sLe q = 0) (hm : sMo q = nI b) (hb : b < 2 ^ 30) (hu : u ≤ b) : ¬ sCh q (nI u) = 0 := by
  unfold sCh
  rw [hl, hm, if_neg (nI_pos (by omega)), if_neg (mt (nI_ltI (by omega) (by omega)).mp (by omega))]
  decide
theorem xSt_h {lt : Nat → Int32} {len a : Nat} {T : xT} {fa : Nat → Int32} (hlen : len ≤ 96) (ha : a < len) (hc : lt a = 104) (hW : xWp lt len a < 0) : xSt lt len a T fa := by
  have eA : xAt lt len a = 104 := by unfold xAt; rw [if_pos ha]; exact hc
  have e := xBeg (lt := lt) (len := len) (a := a) (k := 1) ha (by decide) hc (fun i hi => by rw [hc]; rcases (show i = 0 by omega) with rfl; decide)
  refine xSt_c (c0 := 104) (q := 0) (k := 1) (m := 3) (l := 1) hlen ha hc hW (by decide) e (by decide) (by decide) (by decide) (by decide) rfl (by decide) (by decide) (by decide) (fun T => ?_) (fun u f s l9 hu hf => ?_) (fun u f nw T h hf hr => ?_)
  · obtain ⟨st, ln, ho, pa, si, li, lg, ki, ru, ne, ch⟩ := T
    simp only [xTS]; rw [if_neg (by rw [eA]; decide), if_pos eA]
  · refine ⟨fun h => absurd h (by unfold xMb; rw [if_neg (by decide), if_neg (by decide), if_neg (by decide), if_neg (by decide)]; decide), fun h => absurd h (sCh_u (b := 999) rfl rfl (by decide) (by omega))⟩
  · obtain ⟨st, ln, ho, pa, si, li, lg, ki, ru, ne, ch⟩ := T
    obtain ⟨q1, q2⟩ := sCh_in h
    dsimp only
    have c1 : xCm (nI 1) f nw st ln = upd nw 1 (nI u) := by unfold xCm; rw [if_neg (by decide), if_pos (by decide), hf]
    have g0 : xCg 0 (nI u) 0 ho = nI u := by rw [xCg_ok q1 q2, if_pos (by decide)]
    have g1 : xCg 0 (nI u) 1 pa = pa := by rw [xCg_ok q1 q2, if_neg (by decide)]
    have g2 : xCg 0 (nI u) 2 si = si := by rw [xCg_ok q1 q2, if_neg (by decide)]
    have g3 : xCl 0 (nI u) li = li := by rw [xCl_ok q1 q2, if_pos (by decide)]
    rw [c1, g0, g1, g2, g3]
    have b := hr.2.1
    exact xRel_u hr (fun i hi => pk_un (by omega)) pk_us ((pk_un (by decide)).trans b.2.1) ((pk_un (by decide)).trans b.2.2.1) ((pk_un (by decide)).trans b.2.2.2)
theorem xSt_p {lt : Nat → Int32} {len a : Nat} {T : xT} {fa : Nat → Int32} (hlen : len ≤ 96) (ha : a < len) (hc : lt a = 112) (hW : xWp lt len a < 0) : xSt lt len a T fa := by
  have eA : xAt lt len a = 112 := by unfold xAt; rw [if_pos ha]; exact hc
  have e := xBeg (lt := lt) (len := len) (a := a) (k := 2) ha (by decide) hc (fun i hi => by rw [hc]; rcases (show i = 0 ∨ i = 1 by omega) with rfl | rfl <;> decide)
  refine xSt_c (c0 := 112) (q := 1) (k := 2) (m := 3) (l := 2) hlen ha hc hW (by decide) e (by decide) (by decide) (by decide) (by decide) rfl (by decide) (by decide) (by decide) (fun T => ?_) (fun u f s l9 hu hf => ?_) (fun u f nw T h hf hr => ?_)
  · obtain ⟨st, ln, ho, pa, si, li, lg, ki, ru, ne, ch⟩ := T
    simp only [xTS]; rw [if_neg (by rw [eA]; decide), if_neg (by rw [eA]; decide), if_pos eA]
  · unfold xMb sCh
    rw [if_neg (by decide), if_neg (by decide), if_pos (by decide), hf, show sLe 1 = 20 from rfl, show sMo 1 = 200 from rfl]
  · obtain ⟨st, ln, ho, pa, si, li, lg, ki, ru, ne, ch⟩ := T
    obtain ⟨q1, q2⟩ := sCh_in h
    dsimp only
    have c1 : xCm (nI 2) f nw st ln = upd nw 2 (nI u) := by unfold xCm; rw [if_neg (by decide), if_neg (by decide), if_pos (by decide), hf]
    have g0 : xCg 1 (nI u) 0 ho = ho := by rw [xCg_ok q1 q2, if_neg (by decide)]
    have g1 : xCg 1 (nI u) 1 pa = nI u := by rw [xCg_ok q1 q2, if_pos (by decide)]
    have g2 : xCg 1 (nI u) 2 si = si := by rw [xCg_ok q1 q2, if_neg (by decide)]
    have g3 : xCl 1 (nI u) li = li := by rw [xCl_ok q1 q2, if_neg (by decide), if_pos (by decide)]
    rw [c1, g0, g1, g2, g3]
    have b := hr.2.1
    exact xRel_u hr (fun i hi => pk_un (by omega)) ((pk_un (by decide)).trans b.1) pk_us ((pk_un (by decide)).trans b.2.2.1) ((pk_un (by decide)).trans b.2.2.2)
theorem xSt_e {lt : Nat → Int32} {len a : Nat} {T : xT} {fa : Nat → Int32} (hlen : len ≤ 96) (ha : a < len) (hc : lt a = 101) (hW : xWp lt len a < 0) : xSt lt len a T fa := by
  have eA : xAt lt len a = 101 := by unfold xAt; rw [if_pos ha]; exact hc
  have e := xBeg (lt := lt) (len := len) (a := a) (k := 4) ha (by decide) hc (fun i hi => by rw [hc]; rcases (show i = 0 ∨ i = 1 ∨ i = 2 ∨ i = 3 by omega) with rfl | rfl | rfl | rfl <;> decide)
  refine xSt_c (c0 := 101) (q := 2) (k := 4) (m := 1) (l := 1) hlen ha hc hW (by decide) e (by decide) (by decide) (by decide) (by decide) rfl (by decide) (by decide) (by decide) (fun T => ?_) (fun u f s l9 hu hf => ?_) (fun u f nw T h hf hr => ?_)
  · obtain ⟨st, ln, ho, pa, si, li, lg, ki, ru, ne, ch⟩ := T
    simp only [xTS]; rw [if_neg (by rw [eA]; decide), if_neg (by rw [eA]; decide), if_neg (by rw [eA]; decide), if_pos eA]
  · refine ⟨fun h => absurd h (by unfold xMb; rw [if_neg (by decide), if_neg (by decide), if_neg (by decide), if_neg (by decide)]; decide), fun h => absurd h (sCh_u (b := 9) rfl rfl (by decide) (by omega))⟩
  · obtain ⟨st, ln, ho, pa, si, li, lg, ki, ru, ne, ch⟩ := T
    obtain ⟨q1, q2⟩ := sCh_in h
    dsimp only
    have c1 : xCm (nI 4) f nw st ln = upd nw 4 (nI u) := by unfold xCm; rw [if_neg (by decide), if_neg (by decide), if_neg (by decide), if_neg (by decide), if_pos (by decide), hf]
    have g0 : xCg 2 (nI u) 0 ho = ho := by rw [xCg_ok q1 q2, if_neg (by decide)]
    have g1 : xCg 2 (nI u) 1 pa = pa := by rw [xCg_ok q1 q2, if_neg (by decide)]
    have g2 : xCg 2 (nI u) 2 si = nI u := by rw [xCg_ok q1 q2, if_pos (by decide)]
    have g3 : xCl 2 (nI u) li = li := by rw [xCl_ok q1 q2, if_neg (by decide), if_neg (by decide), if_pos (by decide)]
    rw [c1, g0, g1, g2, g3]
    have b := hr.2.1
    exact xRel_u hr (fun i hi => pk_un (by omega)) ((pk_un (by decide)).trans b.1) ((pk_un (by decide)).trans b.2.1) pk_us ((pk_un (by decide)).trans b.2.2.2)
theorem xSt_m {lt : Nat → Int32} {len a : Nat} {T : xT} {fa : Nat → Int32} (hlen : len ≤ 96) (ha : a < len) (hc : lt a = 109) (hW : xWp lt len a < 0) : xSt lt len a T fa := by
  have eA : xAt lt len a = 109 := by unfold xAt; rw [if_pos ha]; exact hc
  have e := xBeg (lt := lt) (len := len) (a := a) (k := 5) ha (by decide) hc (fun i hi => by rw [hc]; rcases (show i = 0 ∨ i = 1 ∨ i = 2 ∨ i = 3 ∨ i = 4 by omega) with rfl | rfl | rfl | rfl | rfl <;> decide)
  refine xSt_c (c0 := 109) (q := 3) (k := 5) (m := 2) (l := 1) hlen ha hc hW (by decide) e (by decide) (by decide) (by decide) (by decide) rfl (by decide) (by decide) (by decide) (fun T => ?_) (fun u f s l9 hu hf => ?_) (fun u f nw T h hf hr => ?_)
  · obtain ⟨st, ln, ho, pa, si, li, lg, ki, ru, ne, ch⟩ := T
    simp only [xTS]; rw [if_neg (by rw [eA]; decide), if_neg (by rw [eA]; decide), if_neg (by rw [eA]; decide), if_neg (by rw [eA]; decide), if_pos eA]
  · unfold xMb sCh
    rw [if_neg (by decide), if_neg (by decide), if_neg (by decide), if_pos (by decide), hf, show sLe 3 = 1 from rfl, show sMo 3 = 60 from rfl]
  · obtain ⟨st, ln, ho, pa, si, li, lg, ki, ru, ne, ch⟩ := T
    obtain ⟨q1, q2⟩ := sCh_in h
    dsimp only
    have c1 : xCm (nI 5) f nw st ln = upd nw 5 (nI u) := by unfold xCm; rw [if_neg (by decide), if_neg (by decide), if_neg (by decide), if_neg (by decide), if_neg (by decide), hf]
    have g0 : xCg 3 (nI u) 0 ho = ho := by rw [xCg_ok q1 q2, if_neg (by decide)]
    have g1 : xCg 3 (nI u) 1 pa = pa := by rw [xCg_ok q1 q2, if_neg (by decide)]
    have g2 : xCg 3 (nI u) 2 si = si := by rw [xCg_ok q1 q2, if_neg (by decide)]
    have g3 : xCl 3 (nI u) li = nI u := by rw [xCl_ok q1 q2, if_neg (by decide), if_neg (by decide), if_neg (by decide)]
    rw [c1, g0, g1, g2, g3]
    have b := hr.2.1
    exact xRel_u hr (fun i hi => pk_un (by omega)) ((pk_un (by decide)).trans b.1) ((pk_un (by decide)).trans b.2.1) ((pk_un (by decide)).trans b.2.2.1) pk_us
theorem xFq_lo {lt : Nat → Int32} {tn : Nat} {p : xP} {g : Nat → Int32} : ∀ n i, i < 4 → xFq lt tn p g n i = g i
  | 0, _, _ => rfl
  | n + 1, i, h => by simp only [xFq]; rw [pk_un (by omega)]; exact xFq_lo n i h
theorem xFq_at {lt : Nat → Int32} {tn : Nat} {p : xP} {g : Nat → Int32} : ∀ n k, k < n → xFq lt tn p g n (3 + (k + 1)) = xPw lt tn 1 (xQ lt tn p k)
  | 0, _, h => absurd h (Nat.not_lt_zero _)
  | n + 1, k, h => by
    simp only [xFq]
    by_cases q : k = n
    · subst q; exact pk_us
    · rw [pk_un (by omega)]; exact xFq_at n k (by omega)
theorem xSmF_S (f : Nat → Int32) : ∀ n, xSmF f 2 (n + 1) = f 2 + xSm (fun t => f (3 + t)) n
  | 0 => by show 0 + f (2 + 0) = f 2 + 0; rw [Int32.zero_add, Int32.add_zero]
  | n + 1 => by
    show xSmF f 2 (n + 1) + f (2 + (n + 1)) = f 2 + (xSm (fun t => f (3 + t)) n + f (3 + n))
    rw [xSmF_S f n, Int32.add_assoc, show 2 + (n + 1) = 3 + n by omega]
theorem xSm_ag {f g : Nat → Int32} : ∀ n, (∀ i, i < n → f i = g i) → xSm f n = xSm g n
  | 0, _ => rfl
  | n + 1, h => by simp only [xSm]; rw [xSm_ag n (fun i hi => h i (by omega)), h n (by omega)]
theorem xB4_0 (lt : Nat → Int32) (tn : Nat) (kf : Nat → Int32) (p : xP) (fa : Nat → Int32) : xB4 lt tn kf p fa 0 = xPv lt tn kf 5 p := by unfold xB4; rw [pk_un (by decide), pk_un (by decide), pk_un (by decide), pk_us]
theorem xB4_1 (lt : Nat → Int32) (tn : Nat) (kf : Nat → Int32) (p : xP) (fa : Nat → Int32) : xB4 lt tn kf p fa 1 = xPw lt tn 1 (xPn lt tn kf 5 p) := by unfold xB4; rw [pk_un (by decide), pk_un (by decide), pk_us]
theorem xB4_2 (lt : Nat → Int32) (tn : Nat) (kf : Nat → Int32) (p : xP) (fa : Nat → Int32) : xB4 lt tn kf p fa 2 = xPw lt tn 1 (xPf lt tn 1 1 (xPn lt tn kf 5 p)) := by unfold xB4; rw [pk_un (by decide), pk_us]
theorem xB4_3 (lt : Nat → Int32) (tn : Nat) (kf : Nat → Int32) (p : xP) (fa : Nat → Int32) : xB4 lt tn kf p fa 3 = xPw lt tn 1 (xPf lt tn 1 1 (xPf lt tn 1 1 (xPn lt tn kf 5 p))) := by unfold xB4; rw [pk_us]
/-- a line's fields, both ways -/
theorem xLf {lt : Nat → Int32} {len a : Nat} {fa : Nat → Int32} (hB : xByt lt len) (hlen : len ≤ 96) (ha : a < len) (hc : lt a = 108) (hW : xWp lt len a < 0) :
    xSs lt len xBF (a, 1) = 3 ∧ xSf lt len xBF xKF fa (a, 1) 0 = xKd lt len (a + 1) ∧ xSf lt len xBF xKF fa (a, 1) 1 = xDg lt len (xDp lt len a) ∧ xSf lt len xBF xKF fa (a, 1) 2 = xDg lt len (xDp lt len a + 1) ∧ ∀ t, t < 12 → xSf lt len xBF xKF fa (a, 1) (3 + t) = xCf lt len a t := by
  have eA : xAt lt len a = 108 := by unfold xAt; rw [if_pos ha]; exact hc
  have hd : xDp lt len a = a + 2 := by unfold xDp; rw [if_pos eA]
  have eB := xBeg (lt := lt) (len := len) (a := a) (k := 3) ha (by decide) hc (fun i hi => by rw [hc]; rcases (show i = 0 ∨ i = 1 ∨ i = 2 by omega) with rfl | rfl | rfl <;> decide)
  have e3 : xSs lt len xBF (a, 1) = 3 := eB.1
  have hw1 : nI (a + 1) < nI (xDp lt len a) := by rw [hd]; exact (nI_ltI (by omega) (by omega)).mpr (by omega)
  have hsm : ¬ sMd (xAt lt len a) = 0 := by rw [eA]; decide
  unfold xWp at hW
  rw [if_neg hsm, if_pos hw1] at hW
  rcases xKd_in (lt := lt) (len := len) (a := a + 1) hB with ⟨k1, k2⟩ | ⟨k1, k2, k3, k4⟩
  · rw [if_pos k1] at hW; exact absurd hW (nI_pos (by omega))
  · rw [if_neg k1] at hW
    have hg := xGood (lt := lt) (a := a) (m := 14) (l := 3) hlen (by omega) (by rw [eA]; decide) (by rw [eA]; decide) (by decide) (by decide) hW
    rw [hd] at hg
    have c1 := xCn_add (lt := lt) (len := len) (a := a + 2) 1 (by omega)
    have c2 := xCn_add (lt := lt) (len := len) (a := a + 2) 2 (by omega)
    have c3 := xCn_add (lt := lt) (len := len) (a := a + 2) 3 (by omega)
    have q1 : xPn lt len xKF 5 (a + 1, 1) = (a + 2, 1) := k2
    have q2 : xPf lt len 1 1 (a + 2, 1) = (a + 3, 1) := xPf11 (by omega)
    have q3 : xPf lt len 1 1 (a + 3, 1) = (a + 4, 1) := xPf11 (by rw [show a + 3 = a + 2 + 1 by omega]; omega)
    have q4 : xPf lt len 1 1 (a + 4, 1) = (a + 5, 1) := xPf11 (by rw [show a + 4 = a + 2 + 2 by omega]; omega)
    have f5 : x5p lt len xKF (a + 1, 1) = (a + 5, 1) := by unfold x5p; rw [q1, q2, q3, q4]
    have fS : xSf lt len xBF xKF fa (a, 1) = xFq lt len (a + 5, 1) (xB4 lt len xKF (a + 1, 1) fa) 11 := by unfold xSf; rw [if_pos e3, eB.2, f5]
    have eDe : xDe lt len a = a + 2 + xCn lt len (a + 2) := by rw [xDe_Cn, hd]
    have cond : ∀ t, t < 12 → (nI t < nI (xDe lt len a) - nI (xDp lt len a) - 2 ↔ t < xCn lt len (a + 2) - 2) := fun t ht => by
      rw [eDe, hd, pk_sub (by omega), show (2 : Int32) = nI 2 from rfl, pk_sub (by omega), nI_ltI (by omega) (by omega)]
      omega
    refine ⟨e3, ?_, ?_, ?_, fun t ht => ?_⟩
    · rw [fS, xFq_lo 11 0 (by decide), xB4_0]; exact k3
    · rw [fS, xFq_lo 11 1 (by decide), hd, xB4_1, q1, xPw1]
    · rw [fS, xFq_lo 11 2 (by decide), hd, xB4_2, q1, q2, xPw1]
    · rw [fS]
      unfold xCf
      cases t with
      | zero =>
        simp only [Nat.add_zero]
        rw [if_pos ((cond 0 (by decide)).mpr (by omega)), xFq_lo 11 3 (by decide), hd, xB4_3, q1, q2, q3, xPw1]
      | succ k =>
        rw [xFq_at 11 k (by omega), xQ_1, xPw1]
        have c5 : xCn lt len (a + 5) + 3 = xCn lt len (a + 2) := by rw [show a + 5 = a + 2 + 3 by omega]; exact c3
        by_cases q : k + 1 < xCn lt len (a + 2) - 2
        · rw [if_pos ((cond (k + 1) ht).mpr q), show a + 5 + min k (xCn lt len (a + 5)) = a + 2 + 2 + (k + 1) by omega, hd]
        · rw [if_neg (mt (cond (k + 1) ht).mp q), show a + 5 + min k (xCn lt len (a + 5)) = a + 2 + xCn lt len (a + 2) by omega]
          have e9 := xCn_add (lt := lt) (len := len) (a := a + 2) (xCn lt len (a + 2)) (Nat.le_refl _)
          unfold xDg
          rw [if_pos (xIsD_Cn.mpr (by omega))]
theorem xSt_l {lt : Nat → Int32} {len a : Nat} {T : xT} {fa : Nat → Int32} (hB : xByt lt len) (hlen : len ≤ 96) (ha : a < len) (hc : lt a = 108) (hW : xWp lt len a < 0) (h3 : T.2.1 ≤ 3) (h7 : T.1 ≤ 7) : xSt lt len a T fa := by
  have eA : xAt lt len a = 108 := by unfold xAt; rw [if_pos ha]; exact hc
  obtain ⟨e3, f0, f1, f2, ft⟩ := xLf (fa := fa) hB hlen ha hc hW
  obtain ⟨st, ln, ho, pa, si, li, lg, ki, ru, ne, ch⟩ := T
  have h3 : ln ≤ 3 := h3
  have h7 : st ≤ 7 := h7
  have eT : xTS lt len a (st, ln, ho, pa, si, li, lg, ki, ru, ne, ch) = xTL lt len a (st, ln, ho, pa, si, li, lg, ki, ru, ne, ch) := by
    simp only [xTS]; rw [if_neg (by rw [eA]; decide), if_neg (by rw [eA]; decide), if_neg (by rw [eA]; decide), if_neg (by rw [eA]; decide), if_neg (by rw [eA]; decide)]
  have hsum : xSmF (xSf lt len xBF xKF fa (a, 1)) 2 13 = xSm (xCp (xCf lt len a) (ch ln) 12) 12 + xDg lt len (xDp lt len a + 1) := by
    have es : xSm (fun t => xSf lt len xBF xKF fa (a, 1) (3 + t)) 12 = xSm (xCp (xCf lt len a) (ch ln) 12) 12 := xSm_ag 12 (fun i hi => (ft i hi).trans (if_pos hi).symm)
    have e13 := xSmF_S (xSf lt len xBF xKF fa (a, 1)) 12
    rw [es, f2] at e13
    exact e13.trans (Int32.add_comm _ _)
  unfold xSt
  rw [eT, e3]
  generalize xSf lt len xBF xKF fa (a, 1) = F9 at f0 f1 f2 ft hsum ⊢
  simp only [xTL]
  unfold xMb
  rw [if_pos rfl, f1, hsum]
  by_cases p3 : ln < 3
  · rw [if_pos p3]
    dsimp only
    rw [if_pos (show nI ln < 3 from (nI_ltI (a := ln) (b := 3) (by omega) (by decide)).mpr p3)]
    refine ⟨Iff.rfl, fun _ => ⟨rfl, rfl, fun nw hR => ?_⟩⟩
    obtain ⟨⟨a1, a2⟩, ⟨b1, b2, b3, b4⟩, g, d⟩ := hR
    dsimp only at a1 a2 b1 b2 b3 b4 g d
    unfold xCm
    rw [if_neg (by decide), if_neg (by decide), if_neg (by decide), if_pos rfl]
    have lo : ∀ i, i < 20 + 16 * ln → ¬ i = 3 → upd (xCw F9 nw (20 + 16 * ln) 15) 3 (nI (ln + 1)) i = nw i := fun i hi h => by rw [pk_un h]; exact xCw_lo _ nw hi 15
    have inn : ∀ k, k < 15 → upd (xCw F9 nw (20 + 16 * ln) 15) 3 (nI (ln + 1)) (20 + 16 * ln + k) = F9 k := fun k hk => by rw [pk_un (by omega)]; exact xCw_in _ nw 15 k hk
    refine ⟨⟨(lo 0 (by omega) (by decide)).trans a1, pk_us⟩, ⟨(lo 1 (by omega) (by decide)).trans b1, (lo 2 (by omega) (by decide)).trans b2, (lo 4 (by omega) (by decide)).trans b3, (lo 5 (by omega) (by decide)).trans b4⟩, fun j hj => ?_, fun j hj => ?_⟩
    · dsimp only at hj ⊢; exact (lo (10 + j) (by omega) (by omega)).trans (g j hj)
    · dsimp only at hj ⊢
      by_cases q : j = ln
      · subst q
        rw [pk_us, pk_us, pk_us]
        refine ⟨(inn 0 (by decide)).trans f0, (inn 1 (by decide)).trans f1, (inn 2 (by decide)).trans f2, fun t ht => ?_⟩
        rw [inn (3 + t) (by omega), ft t ht]
        show _ = (if j = j then xCp (xCf lt len a) (ch j) 12 else ch j) t
        rw [if_pos rfl]
        exact (if_pos ht).symm
      · obtain ⟨d1, d2, d3, d4⟩ := d j (by omega)
        rw [pk_un q, pk_un q, pk_un q]
        refine ⟨(lo _ (by omega) (by omega)).trans d1, (lo _ (by omega) (by omega)).trans d2, (lo _ (by omega) (by omega)).trans d3, fun t ht => ?_⟩
        rw [lo _ (by omega) (by omega), d4 t ht]
        show _ = (if j = ln then xCp (xCf lt len a) (ch ln) 12 else ch j) t
        rw [if_neg q]
  · rw [if_neg p3]
    dsimp only
    rw [if_neg (show ¬ nI ln < 3 from mt (nI_ltI (a := ln) (b := 3) (by omega) (by decide)).mp p3)]
    refine ⟨⟨fun _ => rfl, fun _ => ?_⟩, fun h => absurd rfl h⟩
    split
    · split <;> rfl
    · rfl
theorem xStep {lt : Nat → Int32} {len a : Nat} {T : xT} (fa : Nat → Int32) (hB : xByt lt len) (hlen : len ≤ 96) (ha : a < len) (hW : xWp lt len a < 0) (h3 : T.2.1 ≤ 3) (h7 : T.1 ≤ 7) : xSt lt len a T fa := by
  have eA : xAt lt len a = lt a := by unfold xAt; rw [if_pos ha]
  by_cases h0 : lt a = 115
  · exact xSt_s hlen ha h0 hW h7
  by_cases h1 : lt a = 104
  · exact xSt_h hlen ha h1 hW
  by_cases h2 : lt a = 112
  · exact xSt_p hlen ha h2 hW
  by_cases h3' : lt a = 108
  · exact xSt_l hB hlen ha h3' hW h3 h7
  by_cases h4 : lt a = 101
  · exact xSt_e hlen ha h4 hW
  by_cases h5 : lt a = 109
  · exact xSt_m hlen ha h5 hW
  exfalso
  unfold xWp at hW
  rw [if_pos (by rw [eA]; unfold sMd; rw [if_neg h0, if_neg h1, if_neg h2, if_neg h3', if_neg h4, if_neg h5])] at hW
  exact absurd hW (nI_pos (by omega))

/-! both readings agree: the whole text -/
theorem xIp_n {α : Type} {a : Int32} {x y : α} (h : ¬ 0 < a) : xIp a x y = y := if_neg h
theorem xIp_p {α : Type} {a : Int32} {x y : α} (h : 0 < a) : xIp a x y = x := if_pos h
theorem xNeg1 : ∀ w, w < 97 → ¬ 0 < -1000 - nI w := by decide +kernel
theorem xNeg2 : ∀ w, w < 97 → ¬ 0 < -2000 - nI w := by decide +kernel
theorem xFw_ge {lt : Nat → Int32} {len : Nat} {w : Int32} (h : ¬ w < 0) : ∀ n p, xFw lt len n p w = w
  | 0, _ => rfl
  | n + 1, p => by
    simp only [xFw]
    rw [if_neg h]
    split <;> rfl
theorem xFw_end {lt : Nat → Int32} {len p : Nat} {w : Int32} (h : ¬ p < len) : ∀ n, xFw lt len n p w = w
  | 0 => rfl
  | n + 1 => by simp only [xFw]; rw [if_neg h]
theorem xRL_e {lt : Nat → Int32} {len p k : Nat} {T : xT} (h : ¬ p < len) : ∀ n, xRL lt len n p T k = (T, nI k)
  | 0 => rfl
  | n + 1 => by simp only [xRL]; rw [if_neg h]
/-- how many statements from a place on -/
def xNS (lt : Nat → Int32) (len : Nat) : Nat → Nat → Nat
  | 0, _ => 0
  | n + 1, a => if a < len then xNS lt len n (xDe lt len a + 1) + 1 else 0
theorem xNS_s {lt : Nat → Int32} {len a i : Nat} (hi : i < len) (ha : a < len) : xNS lt len (len - i) a = xNS lt len (len - (i + 1)) (xDe lt len a + 1) + 1 := by
  rw [show len - i = (len - (i + 1)) + 1 by omega]; simp only [xNS]; rw [if_pos ha]
theorem xNS_e {lt : Nat → Int32} {len a : Nat} (h : ¬ a < len) : ∀ n, xNS lt len n a = 0
  | 0 => rfl
  | n + 1 => by simp only [xNS]; rw [if_neg h]
theorem xDe_ge (lt : Nat → Int32) (len a : Nat) : a < xDe lt len a := by
  have h1 := xDp_le lt len a
  have h2 := xDe_le lt len a
  omega
theorem xAg_t {lt : Nat → Int32} {len a : Nat} (hB : xByt lt len) (hlen : len ≤ 96) (ha : a ≤ len) (h : ¬ (xSp lt len xBF xKF (a, 1)).2 = 0) : xWp lt len a < 0 ∧ xSp lt len xBF xKF (a, 1) = (xDe lt len a + 1, 1) ∧ xDe lt len a < len := by
  rcases xAgree hB hlen ha with e | ⟨w, _, _, e⟩
  · exact e
  · exact absurd (by rw [e]) h
theorem xAg_f {lt : Nat → Int32} {len a : Nat} (hB : xByt lt len) (hlen : len ≤ 96) (ha : a ≤ len) (h : (xSp lt len xBF xKF (a, 1)).2 = 0) : ∃ w, w ≤ len ∧ xWp lt len a = nI w ∧ xSp lt len xBF xKF (a, 1) = (w, 0) := by
  rcases xAgree hB hlen ha with ⟨_, e, _⟩ | e
  · rw [e] at h; exact absurd (show (1 : Int32) = 0 from h) (by decide)
  · exact e
theorem xRO_ill {lt : Nat → Int32} {len : Nat} {T : xT} {w : Nat} (h : xF0 lt len = nI w) (hw : w < 97) : xRO lt len T = (T, -1000 - nI w) := by
  unfold xRO; rw [h, if_neg (nI_pos (by omega))]
theorem xRO_ok {lt : Nat → Int32} {len : Nat} {T : xT} (h : xF0 lt len < 0) : xRO lt len T = xRL lt len len 0 T 0 := if_pos h

/-! reading told: what each of its three goes holds -/
def xEv (lt : Nat → Int32) (tn : Nat) (bf kf : Nat → Int32) : Prop := tn ≤ 96 ∧ xByt lt tn ∧ bf = xBF ∧ kf = xKF
def xJ1 (lt : Nat → Int32) (tn i : Nat) (p : xP) : Prop := i ≤ p.1 ∧ xF0 lt tn = xFw lt tn (tn - i) (xDe lt tn p.1 + 1) (xWp lt tn p.1) ∧ i + xNS lt tn (tn - i) p.1 = xNS lt tn tn 0
def xJ2 (lt : Nat → Int32) (tn : Nat) (T : xT) (c : Nat) (p : xP) (s1 l1 : Int32) : Prop := ∃ T8 : xT, ((1 ≤ T8.1 ∧ T8.1 ≤ 7) ∧ T8.2.1 ≤ 3) ∧ s1 = nI T8.1 ∧ l1 = nI T8.2.1 ∧ xRL lt tn (tn - c) p.1 T8 c = xRL lt tn tn 0 T 0 ∧ c + xNS lt tn (tn - c) p.1 = xNS lt tn tn 0 ∧ c ≤ p.1
def xJ3 (lt : Nat → Int32) (tn : Nat) (T : xT) (p : xP) (nw : Nat → Int32) (st ln : Nat) : Prop := ∃ (T7 : xT) (c : Nat), (T7.1 = st ∧ T7.2.1 = ln) ∧ xRel T7 nw ∧ xRL lt tn (tn - c) p.1 T7 c = xRL lt tn tn 0 T 0 ∧ c ≤ p.1
/-- what the reading of a whole text leaves -/
def xJR (lt : Nat → Int32) (tn : Nat) (T : xT) (nw : Nat → Int32) : Prop := xVd nw (xIp (xRO lt tn T).2 (xRO lt tn T).1 T).1 (xIp (xRO lt tn T).2 (xRO lt tn T).1 T).2.1 ∧ xRel (xIp (xRO lt tn T).2 (xRO lt tn T).1 T) nw
theorem xJR_n {lt : Nat → Int32} {tn st ln : Nat} {T : xT} {nw : Nat → Int32} (hV : xVd nw st ln) (hR : xRel T nw) (hT : T.1 = st ∧ T.2.1 = ln) (hn : ¬ 0 < (xRO lt tn T).2) : xJR lt tn T nw := by
  unfold xJR
  rw [xIp_n hn, hT.1, hT.2]
  exact ⟨hV, hR⟩
theorem xJ1_0 (lt : Nat → Int32) (tn : Nat) : xJ1 lt tn 0 (0, 1) := by
  refine ⟨Nat.le_refl _, ?_, ?_⟩
  · show xF0 lt tn = xFw lt tn (tn - 0) (xDe lt tn 0 + 1) (xWp lt tn 0)
    rw [Nat.sub_zero]
    rfl
  · show 0 + xNS lt tn (tn - 0) 0 = xNS lt tn tn 0
    rw [Nat.sub_zero, Nat.zero_add]
theorem xJ1_s {lt bf kf : Nat → Int32} {tn i : Nat} {p q : xP} (hE : xEv lt tn bf kf) (h : xJ1 lt tn i p) (hp : p.1 ≤ tn) (h1 : p.2 = 1) (eq : xSp lt tn bf kf p = q) (hh : ¬ (xSp lt tn bf kf p).2 = 0) (hlt : q.1 < tn) : xJ1 lt tn (i + 1) q := by
  obtain ⟨htn, hB, rfl, rfl⟩ := hE
  obtain ⟨a, b⟩ := p
  have hp : a ≤ tn := hp
  obtain rfl : b = 1 := h1
  obtain ⟨h5, h6, h7⟩ := h
  have h5 : i ≤ a := h5
  have h6 : xF0 lt tn = xFw lt tn (tn - i) (xDe lt tn a + 1) (xWp lt tn a) := h6
  have h7 : i + xNS lt tn (tn - i) a = xNS lt tn tn 0 := h7
  obtain ⟨hw9, hsp9, hde9⟩ := xAg_t (a := a) hB htn hp hh
  obtain rfl := eq.symm.trans hsp9
  have hlt : xDe lt tn a + 1 < tn := hlt
  have hag := xDe_ge lt tn a
  refine ⟨by show i + 1 ≤ xDe lt tn a + 1; omega, ?_, ?_⟩
  · show xF0 lt tn = xFw lt tn (tn - (i + 1)) (xDe lt tn (xDe lt tn a + 1) + 1) (xWp lt tn (xDe lt tn a + 1))
    rw [h6]
    exact (xFw_s (by omega) hlt hw9).symm
  · show (i + 1) + xNS lt tn (tn - (i + 1)) (xDe lt tn a + 1) = xNS lt tn tn 0
    have e := xNS_s (lt := lt) (len := tn) (a := a) (i := i) (by omega) (by omega)
    omega
theorem xJ1_e {lt bf kf : Nat → Int32} {tn i : Nat} {p q : xP} (hE : xEv lt tn bf kf) (h : xJ1 lt tn i p) (hp : p.1 ≤ tn) (h1 : p.2 = 1) (eq : xSp lt tn bf kf p = q) (hh : ¬ (xSp lt tn bf kf p).2 = 0) (hnt : ¬ q.1 < tn) : xF0 lt tn < 0 ∧ xNS lt tn tn 0 = i + 1 ∧ i < 97 := by
  obtain ⟨htn, hB, rfl, rfl⟩ := hE
  obtain ⟨a, b⟩ := p
  have hp : a ≤ tn := hp
  obtain rfl : b = 1 := h1
  obtain ⟨h5, h6, h7⟩ := h
  have h5 : i ≤ a := h5
  have h6 : xF0 lt tn = xFw lt tn (tn - i) (xDe lt tn a + 1) (xWp lt tn a) := h6
  have h7 : i + xNS lt tn (tn - i) a = xNS lt tn tn 0 := h7
  obtain ⟨hw9, hsp9, hde9⟩ := xAg_t (a := a) hB htn hp hh
  obtain rfl := eq.symm.trans hsp9
  have hnt : ¬ xDe lt tn a + 1 < tn := hnt
  have hag := xDe_ge lt tn a
  have e := xNS_s (lt := lt) (len := tn) (a := a) (i := i) (by omega) (by omega)
  rw [xNS_e hnt] at e
  exact ⟨by rw [h6, xFw_end hnt]; exact hw9, by omega, by omega⟩
theorem xJ1_f {lt bf kf : Nat → Int32} {tn i : Nat} {p q : xP} (hE : xEv lt tn bf kf) (h : xJ1 lt tn i p) (hp : p.1 ≤ tn) (h1 : p.2 = 1) (eq : xSp lt tn bf kf p = q) (hh : q.2 = 0) (T : xT) : -1000 - nI q.1 = (xRO lt tn T).2 ∧ ¬ 0 < (xRO lt tn T).2 := by
  obtain ⟨htn, hB, rfl, rfl⟩ := hE
  obtain ⟨a, b⟩ := p
  have hp : a ≤ tn := hp
  obtain rfl : b = 1 := h1
  obtain ⟨h5, h6, h7⟩ := h
  have h6 : xF0 lt tn = xFw lt tn (tn - i) (xDe lt tn a + 1) (xWp lt tn a) := h6
  obtain ⟨w9, hw1, hw2, hw3⟩ := xAg_f (a := a) hB htn hp (by rw [eq]; exact hh)
  obtain rfl := eq.symm.trans hw3
  have e : (xRO lt tn T).2 = -1000 - nI w9 := by rw [xRO_ill (T := T) (lt := lt) (len := tn) (w := w9) (by rw [h6, xFw_ge (by rw [hw2]; exact nI_pos (by omega))]; exact hw2) (by omega)]
  exact ⟨e.symm, by rw [e]; exact xNeg1 w9 (by omega)⟩
theorem xJ2_0 {lt nw : Nat → Int32} {tn st ln : Nat} {T : xT} (hV : xVd nw st ln) (hT : T.1 = st ∧ T.2.1 = ln) : xJ2 lt tn T 0 (0, 1) (nw 0) (nw 3) := by
  refine ⟨T, by rw [hT.1, hT.2]; exact ⟨hV.1.2, hV.2.1.2⟩, by rw [hT.1]; exact hV.1.1, by rw [hT.2]; exact hV.2.1.1, ?_, ?_, Nat.le_refl _⟩
  · show xRL lt tn (tn - 0) 0 T 0 = xRL lt tn tn 0 T 0
    rw [Nat.sub_zero]
  · show 0 + xNS lt tn (tn - 0) 0 = xNS lt tn tn 0
    rw [Nat.sub_zero, Nat.zero_add]
theorem xJ2_s {lt bf kf f : Nat → Int32} {tn c : Nat} {T : xT} {p q : xP} {s1 l1 t : Int32} {g : Nat → Int32} (hE : xEv lt tn bf kf) (h : xJ2 lt tn T c p s1 l1) (hp : p.1 < tn) (h1 : p.2 = 1) (eq : xSp lt tn bf kf p = q) (et : xSs lt tn bf p = t) (ef : xSf lt tn bf kf g p = f) (hh : ¬ (xSp lt tn bf kf p).2 = 0) (hm : ¬ xMb t f s1 l1 = 0) : xJ2 lt tn T (c + 1) q (s1 + xB0 t) (l1 + xB3 t) := by
  obtain ⟨htn, hB, rfl, rfl⟩ := hE
  obtain ⟨a, b⟩ := p
  have hp : a < tn := hp
  obtain rfl : b = 1 := h1
  obtain ⟨T8, k5, k6, k7, k8, k9, k10⟩ := h
  have k8 : xRL lt tn (tn - c) a T8 c = xRL lt tn tn 0 T 0 := k8
  have k9 : c + xNS lt tn (tn - c) a = xNS lt tn tn 0 := k9
  have k10 : c ≤ a := k10
  obtain ⟨hw8, hsp8, hde8⟩ := xAg_t (a := a) hB htn (Nat.le_of_lt hp) hh
  obtain rfl := eq.symm.trans hsp8
  have hst8 := xStep (T := T8) g hB htn hp hw8 k5.2 k5.1.2
  unfold xSt at hst8
  rw [et, ef] at hst8
  have hok : ¬ (xTS lt tn a T8).2 = 0 := fun h => hm (by rw [k6, k7]; exact hst8.1.mpr h)
  obtain ⟨hb1, hb2, -⟩ := hst8.2 hok
  have hag8 := xDe_ge lt tn a
  have hrl8 := (xRL_s (lt := lt) (len := tn) (i := c) (p := a) (k := c) (T := T8) (by omega) hp hok).trans k8
  have e := xNS_s (lt := lt) (len := tn) (a := a) (i := c) (by omega) hp
  refine ⟨(xTS lt tn a T8).1, xTS_b lt tn a T8 k5.1.1 k5.1.2 k5.2, by rw [k6, hb1]; exact xN0_e _ _, by rw [k7, hb2]; exact xN3_e _ _, hrl8, ?_, ?_⟩
  · show c + 1 + xNS lt tn (tn - (c + 1)) (xDe lt tn a + 1) = xNS lt tn tn 0
    omega
  · show c + 1 ≤ xDe lt tn a + 1
    omega
theorem xJ2_f {lt bf kf f : Nat → Int32} {tn c : Nat} {T : xT} {p : xP} {s1 l1 t : Int32} {g : Nat → Int32} (hE : xEv lt tn bf kf) (h : xJ2 lt tn T c p s1 l1) (hp : p.1 < tn) (h1 : p.2 = 1) (et : xSs lt tn bf p = t) (ef : xSf lt tn bf kf g p = f) (hh : ¬ (xSp lt tn bf kf p).2 = 0) (hm : xMb t f s1 l1 = 0) (hF0 : xF0 lt tn < 0) : -2000 - nI p.1 = (xRO lt tn T).2 ∧ ¬ 0 < (xRO lt tn T).2 := by
  obtain ⟨htn, hB, rfl, rfl⟩ := hE
  obtain ⟨a, b⟩ := p
  have hp : a < tn := hp
  obtain rfl : b = 1 := h1
  obtain ⟨T8, k5, k6, k7, k8, k9, k10⟩ := h
  have k8 : xRL lt tn (tn - c) a T8 c = xRL lt tn tn 0 T 0 := k8
  have k10 : c ≤ a := k10
  obtain ⟨hw8, hsp8, hde8⟩ := xAg_t (a := a) hB htn (Nat.le_of_lt hp) hh
  have hst8 := xStep (T := T8) g hB htn hp hw8 k5.2 k5.1.2
  unfold xSt at hst8
  rw [et, ef] at hst8
  have hf8 : (xTS lt tn a T8).2 = 0 := hst8.1.mp (by rw [← k6, ← k7]; exact hm)
  have hrl := (xRL_f (lt := lt) (len := tn) (i := c) (p := a) (k := c) (T := T8) (by omega) hp hf8).symm.trans k8
  have e : (xRO lt tn T).2 = -2000 - nI a := by rw [xRO_ok hF0, ← hrl]
  exact ⟨e.symm, by rw [e]; exact xNeg2 a (by omega)⟩
theorem xJ2_e {lt : Nat → Int32} {tn c i : Nat} {T : xT} {p : xP} {s1 l1 : Int32} (h : xJ2 lt tn T c p s1 l1) (hn : ¬ p.1 < tn) (hF0 : xF0 lt tn < 0) (hNS : xNS lt tn tn 0 = i + 1) : (xRO lt tn T).2 = nI (i + 1) := by
  obtain ⟨T8, k5, k6, k7, k8, k9, k10⟩ := h
  rw [xNS_e hn] at k9
  have hc : c = i + 1 := by omega
  have e : (xRO lt tn T).2 = nI c := by rw [xRO_ok hF0, ← k8, xRL_e hn]
  rw [e, hc]
theorem xJ3_0 {lt nw : Nat → Int32} {tn st ln : Nat} {T : xT} (hR : xRel T nw) (hT : T.1 = st ∧ T.2.1 = ln) : xJ3 lt tn T (0, 1) nw st ln := by
  refine ⟨T, 0, hT, hR, ?_, Nat.le_refl _⟩
  show xRL lt tn (tn - 0) 0 T 0 = xRL lt tn tn 0 T 0
  rw [Nat.sub_zero]
theorem xJ3_s {lt bf kf f nw : Nat → Int32} {tn st ln : Nat} {T : xT} {p q : xP} {t : Int32} {g : Nat → Int32} (hE : xEv lt tn bf kf) (h : xJ3 lt tn T p nw st ln) (hp : p.1 < tn) (h1 : p.2 = 1) (eq : xSp lt tn bf kf p = q) (et : xSs lt tn bf p = t) (ef : xSf lt tn bf kf g p = f) (hh : ¬ (xSp lt tn bf kf p).2 = 0) (hV : xVd nw st ln) (hm : ¬ xMb t f (nI st) (nI ln) = 0) : xJ3 lt tn T q (xCm t f nw st ln) (st + xN0 t) (ln + xN3 t) := by
  obtain ⟨htn, hB, rfl, rfl⟩ := hE
  obtain ⟨a, b⟩ := p
  have hp : a < tn := hp
  obtain rfl : b = 1 := h1
  obtain ⟨T7, c, ⟨rfl, rfl⟩, o5, o6, o7⟩ := h
  have o6 : xRL lt tn (tn - c) a T7 c = xRL lt tn tn 0 T 0 := o6
  have o7 : c ≤ a := o7
  obtain ⟨hw7, hsp7, hde7⟩ := xAg_t (a := a) hB htn (Nat.le_of_lt hp) hh
  obtain rfl := eq.symm.trans hsp7
  have hst7 := xStep (T := T7) g hB htn hp hw7 hV.2.1.2 hV.1.2.2
  unfold xSt at hst7
  rw [et, ef] at hst7
  have hok : ¬ (xTS lt tn a T7).2 = 0 := fun h => hm (hst7.1.mpr h)
  obtain ⟨hb1, hb2, hb3⟩ := hst7.2 hok
  have hag := xDe_ge lt tn a
  refine ⟨(xTS lt tn a T7).1, c + 1, ⟨hb1, hb2⟩, hb3 nw o5, (xRL_s (lt := lt) (len := tn) (i := c) (p := a) (k := c) (T := T7) (by omega) hp hok).trans o6, ?_⟩
  show c + 1 ≤ xDe lt tn a + 1
  omega
theorem xJ3_e {lt nw : Nat → Int32} {tn st ln i : Nat} {T : xT} {p : xP} (h : xJ3 lt tn T p nw st ln) (hn : ¬ p.1 < tn) (hF0 : xF0 lt tn < 0) (hi : i < 97) (hR9 : (xRO lt tn T).2 = nI (i + 1)) (hV : xVd nw st ln) : xJR lt tn T nw := by
  obtain ⟨T7, c, ⟨e1, e2⟩, o5, o6, o7⟩ := h
  have hR7 : xRO lt tn T = (T7, nI c) := (xRO_ok hF0).trans (o6.symm.trans (xRL_e hn _))
  have h0 : 0 < (xRO lt tn T).2 := by rw [hR9]; exact (nI_ltI (a := 0) (b := i + 1) (by decide) (by omega)).mpr (by omega)
  unfold xJR
  rw [xIp_p h0, hR7]
  exact ⟨by rw [e1, e2]; exact hV, o5⟩

set_option maxHeartbeats 4000000 in
set_option maxRecDepth 100000 in
theorem g_X5_readE (l : Launch) (D : va_G) (cI cL cZ cC : ClassId) (sz : Nat) (g0 : Nat) (ra : Nat) (wa : Nat) (ta : Nat) (ma : Nat) (pa : Nat) (ba : Nat) (ka : Nat) (fa : Nat) (qa : Nat) (ea : Nat) (za : Nat) (ya : Nat) (kpt : Int32) (mkd : Int32) (at0 : Int32) (wel : Int32) (srt : Int32) (wks : Int32) (tn : Nat) (lt : Nat → Int32) (bf : Nat → Int32) (kf : Nat → Int32) (ff : Nat → Int32) (st : Nat) (ln : Nat) (nw : Nat → Int32) (T : xT) (htn : tn ≤ 96) (hV : xVd nw st ln) (hB : xByt lt tn) (hR : xRel T nw) (hT : T.1 = st ∧ T.2.1 = ln) (hbf : bf = xBF) (hkf : kf = xKF) : Met l yX5_read wsX5_read ({ frames := 3, cells := 0, slots := 0, locals := 65 } : Room) (wPc D [.ref g0] [(g0, .inr (5, [.ref ra, .ref wa, .ref ta, .int kpt, .ref ma, .int mkd, .ref pa, .int (nI tn), .int at0, .int wel, .ref ba, .ref ka, .int srt, .ref fa, .ref qa, .ref ea, .ref za, .ref ya, .int wks])), (pa, .inl (cI, 96, .inl lt)), (ba, .inl (cC, 6, .inl bf)), (ka, .inl (cC, 5, .inl kf)), (fa, .inl (cI, 15, .inl ff)), (wa, .inl (cI, 70, .inl nw))] (xTy cI cL cZ cC) sz) (va_Qi (fun (r : Int32) (_ : Unit) => r = (xRO lt tn T).2) (fun (_ : Unit) t => ∃ a9 : Int32, ∃ w9 : Int32, ∃ s9 : Int32, ∃ ff9 : Nat → Int32, ∃ nw9 : Nat → Int32, (xJR lt tn T nw9) ∧ va_P D vwCl [(g0, .inr (5, [.ref ra, .ref wa, .ref ta, .int kpt, .ref ma, .int mkd, .ref pa, .int (nI tn), .int a9, .int w9, .ref ba, .ref ka, .int s9, .ref fa, .ref qa, .ref ea, .ref za, .ref ya, .int wks])), (pa, .inl (cI, 96, .inl lt)), (ba, .inl (cC, 6, .inl bf)), (ka, .inl (cC, 5, .inl kf)), (fa, .inl (cI, 15, .inl ff9)), (wa, .inl (cI, 70, .inl nw9))] t.heap ∧ va_D (va_A [(g0, .inr (5, [.ref ra, .ref wa, .ref ta, .int kpt, .ref ma, .int mkd, .ref pa, .int (nI tn), .int at0, .int wel, .ref ba, .ref ka, .int srt, .ref fa, .ref qa, .ref ea, .ref za, .ref ya, .int wks])), (pa, .inl (cI, 96, .inl lt)), (ba, .inl (cC, 6, .inl bf)), (ka, .inl (cC, 5, .inl kf)), (fa, .inl (cI, 15, .inl ff)), (wa, .inl (cI, 70, .inl nw))] sz) [(g0, .inr (5, [.ref ra, .ref wa, .ref ta, .int kpt, .ref ma, .int mkd, .ref pa, .int (nI tn), .int a9, .int w9, .ref ba, .ref ka, .int s9, .ref fa, .ref qa, .ref ea, .ref za, .ref ya, .int wks])), (pa, .inl (cI, 96, .inl lt)), (ba, .inl (cC, 6, .inl bf)), (ka, .inl (cC, 5, .inl kf)), (fa, .inl (cI, 15, .inl ff9)), (wa, .inl (cI, 70, .inl nw9))]) (va_A [(g0, .inr (5, [.ref ra, .ref wa, .ref ta, .int kpt, .ref ma, .int mkd, .ref pa, .int (nI tn), .int at0, .int wel, .ref ba, .ref ka, .int srt, .ref fa, .ref qa, .ref ea, .ref za, .ref ya, .int wks])), (pa, .inl (cI, 96, .inl lt)), (ba, .inl (cC, 6, .inl bf)), (ka, .inl (cC, 5, .inl kf)), (fa, .inl (cI, 15, .inl ff)), (wa, .inl (cI, 70, .inl nw))] sz)) 0 0 (va_A [(g0, .inr (5, [.ref ra, .ref wa, .ref ta, .int kpt, .ref ma, .int mkd, .ref pa, .int (nI tn), .int at0, .int wel, .ref ba, .ref ka, .int srt, .ref fa, .ref qa, .ref ea, .ref za, .ref ya, .int wks])), (pa, .inl (cI, 96, .inl lt)), (ba, .inl (cC, 6, .inl bf)), (ka, .inl (cC, 5, .inl kf)), (fa, .inl (cI, 15, .inl ff)), (wa, .inl (cI, 70, .inl nw))] sz) := by
  refine Met.ofW (cc := cX5_read) (maxL := 5) (ret := (some .int)) (by decide) rfl ?_
  intro p e s m args below meth c s₁ B hml hv
  obtain ⟨rfl, hsz, hP, hK, hD0⟩ := hv
  have hx := B.exec
  have hb := B.bytes
  have hr := B.returns
  have hts := atoms_spec (ws := wsX5_read) B.pre
  have hown : s.vm.findClass RX5 = some m.cls := findClass_of_methodNamed B.named
  have hlocks := B.notSynchronized
  have hwX5 : ∀ w ∈ u_ws RX5 TX5 19, w ∈ wsX5_read := fun _ h => List.mem_cons_of_mem _ (List.mem_append_right _ h)
  subst hsz
  have hD := hD0.self (sz := s.heap.size)
  generalize hAe : va_A [(g0, .inr (5, [.ref ra, .ref wa, .ref ta, .int kpt, .ref ma, .int mkd, .ref pa, .int (nI tn), .int at0, .int wel, .ref ba, .ref ka, .int srt, .ref fa, .ref qa, .ref ea, .ref za, .ref ya, .int wks])), (pa, .inl (cI, 96, .inl lt)), (ba, .inl (cC, 6, .inl bf)), (ka, .inl (cC, 5, .inl kf)), (fa, .inl (cI, 15, .inl ff)), (wa, .inl (cI, 70, .inl nw))] s.heap.size = A at hD ⊢
  have hA : ∀ q : Nat, s.heap.size ≤ q → A q := fun q h => by rw [← hAe]; exact Or.inr h
  have hS : va_S A s.heap s.heap [] := va_S.rf
  have hP : va_P D vwCl [(g0, .inr (5, [.ref ra, .ref wa, .ref ta, .int kpt, .ref ma, .int mkd, .ref pa, .int (nI tn), .int at0, .int wel, .ref ba, .ref ka, .int srt, .ref fa, .ref qa, .ref ea, .ref za, .ref ya, .int wks])), (pa, .inl (cI, 96, .inl lt)), (ba, .inl (cC, 6, .inl bf)), (ka, .inl (cC, 5, .inl kf)), (fa, .inl (cI, 15, .inl ff)), (wa, .inl (cI, 70, .inl nw))] s.heap := hP
  have hl := lv_entry ([.ref g0]) (n := 5) (Nat.le_of_ble_eq_true rfl)
  rw [lg_entry_eq]
  generalize (lg_sl ([.ref g0]) ++ List.replicate (5 - (lg_sl ([.ref g0])).length) Slot.unset).toArray = ls at hl ⊢
  have hl : lv_has ls 5 [(0, .ref g0)] := hl
  have hE : xEv lt tn bf kf := ⟨htn, hB, hbf, hkf⟩
  refine lv_iconst (v := 0) hx hb dX5_read_0 (by decide) ?_
  refine lv_istore_n (lv' := [(1, .int 0), (0, .ref g0)]) hx hb dX5_read_1 rfl hl (by decide) rfl (fun ls hl => ?_)
  refine lv_aload_n hx hb dX5_read_2 rfl (lv_at hl 1 rfl) ?_
  refine lv_iconst (v := 0) hx hb dX5_read_3 (by decide) ?_
  refine va_put (D := D) (ci := 5) (v := .int 0) (ty := .int) (C := RX5) (T := TX5) (N := 19) hx hb hts hwX5 tyX5 tyX5_ok nmX5 hown hK hP hD hS 0 rfl rfl 8 (by decide) (hts (.fieldLink RX5 64 "WaitOrWalkOnModel" "at" "I") (by decide +kernel)) (fun _ h9 => h9) rfl (by decide +kernel) (by decide +kernel) rfl (Nat.le_of_ble_eq_true rfl) dX5_read_4 (fun H locs hP hD hS => ?_)
  have hP : va_P D vwCl [(g0, .inr (5, [.ref ra, .ref wa, .ref ta, .int kpt, .ref ma, .int mkd, .ref pa, .int (nI tn), .int 0, .int wel, .ref ba, .ref ka, .int srt, .ref fa, .ref qa, .ref ea, .ref za, .ref ya, .int wks])), (pa, .inl (cI, 96, .inl lt)), (ba, .inl (cC, 6, .inl bf)), (ka, .inl (cC, 5, .inl kf)), (fa, .inl (cI, 15, .inl ff)), (wa, .inl (cI, 70, .inl nw))] H := hP
  have hD : va_D A [(g0, .inr (5, [.ref ra, .ref wa, .ref ta, .int kpt, .ref ma, .int mkd, .ref pa, .int (nI tn), .int 0, .int wel, .ref ba, .ref ka, .int srt, .ref fa, .ref qa, .ref ea, .ref za, .ref ya, .int wks])), (pa, .inl (cI, 96, .inl lt)), (ba, .inl (cC, 6, .inl bf)), (ka, .inl (cC, 5, .inl kf)), (fa, .inl (cI, 15, .inl ff)), (wa, .inl (cI, 70, .inl nw))] := hD
  refine lv_aload_n hx hb dX5_read_7 rfl (lv_at hl 1 rfl) ?_
  refine lv_iconst (v := 1) hx hb dX5_read_8 (by decide) ?_
  refine va_put (D := D) (ci := 5) (v := .int 1) (ty := .boolean) (C := RX5) (T := TX5) (N := 19) hx hb hts hwX5 tyX5 tyX5_ok nmX5 hown hK hP hD hS 0 rfl rfl 9 (by decide) (hts (.fieldLink RX5 61 "WaitOrWalkOnModel" "well" "Z") (by decide +kernel)) (fun _ h9 => h9) rfl (by decide +kernel) (by decide +kernel) rfl (Nat.le_of_ble_eq_true rfl) dX5_read_9 (fun H locs hP hD hS => ?_)
  have hP : va_P D vwCl [(g0, .inr (5, [.ref ra, .ref wa, .ref ta, .int kpt, .ref ma, .int mkd, .ref pa, .int (nI tn), .int 0, .int 1, .ref ba, .ref ka, .int srt, .ref fa, .ref qa, .ref ea, .ref za, .ref ya, .int wks])), (pa, .inl (cI, 96, .inl lt)), (ba, .inl (cC, 6, .inl bf)), (ka, .inl (cC, 5, .inl kf)), (fa, .inl (cI, 15, .inl ff)), (wa, .inl (cI, 70, .inl nw))] H := hP
  have hD : va_D A [(g0, .inr (5, [.ref ra, .ref wa, .ref ta, .int kpt, .ref ma, .int mkd, .ref pa, .int (nI tn), .int 0, .int 1, .ref ba, .ref ka, .int srt, .ref fa, .ref qa, .ref ea, .ref za, .ref ya, .int wks])), (pa, .inl (cI, 96, .inl lt)), (ba, .inl (cC, 6, .inl bf)), (ka, .inl (cC, 5, .inl kf)), (fa, .inl (cI, 15, .inl ff)), (wa, .inl (cI, 70, .inl nw))] := hD
  refine xl_loopH (σ := Nat × (Nat × Int32) × Int32 × (Nat → Int32)) (fun n q H locs ls => lv_has ls 5 [(1, .int (nI q.1)), (0, .ref g0)] ∧ va_P D vwCl [(g0, .inr (5, [.ref ra, .ref wa, .ref ta, .int kpt, .ref ma, .int mkd, .ref pa, .int (nI tn), .int (nI q.2.1.1), .int q.2.1.2, .ref ba, .ref ka, .int q.2.2.1, .ref fa, .ref qa, .ref ea, .ref za, .ref ya, .int wks])), (pa, .inl (cI, 96, .inl lt)), (ba, .inl (cC, 6, .inl bf)), (ka, .inl (cC, 5, .inl kf)), (fa, .inl (cI, 15, .inl q.2.2.2)), (wa, .inl (cI, 70, .inl nw))] H ∧ va_D A [(g0, .inr (5, [.ref ra, .ref wa, .ref ta, .int kpt, .ref ma, .int mkd, .ref pa, .int (nI tn), .int (nI q.2.1.1), .int q.2.1.2, .ref ba, .ref ka, .int q.2.2.1, .ref fa, .ref qa, .ref ea, .ref za, .ref ya, .int wks])), (pa, .inl (cI, 96, .inl lt)), (ba, .inl (cC, 6, .inl bf)), (ka, .inl (cC, 5, .inl kf)), (fa, .inl (cI, 15, .inl q.2.2.2)), (wa, .inl (cI, 70, .inl nw))] ∧ va_S A s.heap H locs ∧ (tn + 1 - q.2.1.1 < n) ∧ (q.2.1.1 ≤ tn) ∧ (q.2.1.2 = 1) ∧ (∀ v, xGd lt tn bf kf v q.2.1 → xGd lt tn bf kf (v + q.1) (0, 1)) ∧ (xJ1 lt tn q.1 q.2.1)) (tn + 2) (0, (0, 1), srt, ff) ⟨lv_sub hl [0, 1] rfl, hP.sub [0, 1, 2, 3, 4, 5] rfl, hD.sub [0, 1, 2, 3, 4, 5] (by decide) rfl, hS, by (try dsimp only); exact ⟨by omega, by omega, rfl, fun v h => h, xJ1_0 lt tn⟩⟩ (fun q H lc ls h => absurd h.2.2.2.2.1 (Nat.not_lt_zero _)) ?_
  intro n_12 q_12 H locs ls ih_12 hI_12
  obtain ⟨hl, hP, hD, hS, hI_12⟩ := hI_12
  obtain ⟨i, p9, s9, g9⟩ := q_12
  obtain ⟨h1, h2, h3, h4, h5⟩ := hI_12
  try dsimp only at hl hP hD h1 h2 h3 h4 h5
  refine lv_aload_n hx hb dX5_read_12 rfl (lv_at hl 1 rfl) ?_
  have hPc := hP.sub (ws' := [(g0, .inr (5, [.ref ra, .ref wa, .ref ta, .int kpt, .ref ma, .int mkd, .ref pa, .int (nI tn), .int (nI p9.1), .int p9.2, .ref ba, .ref ka, .int s9, .ref fa, .ref qa, .ref ea, .ref za, .ref ya, .int wks])), (pa, .inl (cI, 96, .inl lt)), (ba, .inl (cC, 6, .inl bf)), (ka, .inl (cC, 5, .inl kf)), (fa, .inl (cI, 15, .inl g9))]) [0, 1, 2, 3, 4] rfl
  have hDc := hD.sub (ws' := [(g0, .inr (5, [.ref ra, .ref wa, .ref ta, .int kpt, .ref ma, .int mkd, .ref pa, .int (nI tn), .int (nI p9.1), .int p9.2, .ref ba, .ref ka, .int s9, .ref fa, .ref qa, .ref ea, .ref za, .ref ya, .int wks])), (pa, .inl (cI, 96, .inl lt)), (ba, .inl (cC, 6, .inl bf)), (ka, .inl (cC, 5, .inl kf)), (fa, .inl (cI, 15, .inl g9))]) [0, 1, 2, 3, 4] (by decide) rfl
  have hFc := va_free (wc := [(g0, .inr (5, [.ref ra, .ref wa, .ref ta, .int kpt, .ref ma, .int mkd, .ref pa, .int (nI tn), .int (nI p9.1), .int p9.2, .ref ba, .ref ka, .int s9, .ref fa, .ref qa, .ref ea, .ref za, .ref ya, .int wks])), (pa, .inl (cI, 96, .inl lt)), (ba, .inl (cC, 6, .inl bf)), (ka, .inl (cC, 5, .inl kf)), (fa, .inl (cI, 15, .inl g9))]) hD hS hA [0, 1, 2, 3, 4] rfl
  refine va_callv (va_runV (As := []) (rest := []) ⟨hx, hb, hml, hown, hts⟩ (g_X5_statement l D cI cL cZ cC _ g0 ra wa ta ma pa ba ka fa qa ea za ya kpt mkd s9 wks tn p9 lt bf kf g9 (htn) (h2)) (cwV 0 hts gX5_read_X5_statement rfl rfl rfl (by decide +kernel) ⟨Nat.le_of_ble_eq_true rfl, Nat.le_of_ble_eq_true rfl⟩) ⟨wPc_bl, va_recv hK hPc (ci := 5) (q0 := 0) rfl rfl, wPc_use hPc hK hDc⟩ rfl rfl hl.1 rfl (lv_room (Nat.le_of_ble_eq_true rfl)) dX5_read_13 ⟨Nat.le_of_ble_eq_true rfl, Nat.le_of_ble_eq_true rfl⟩) hS (fun q _ h => hFc q h) hFc (fun u_1 t H1 locs ht hvm hw hB hz1 hk1 hS => ?_)
  obtain ⟨hP1, hD1⟩ := hB
  rw [ht] at hP1
  obtain ⟨hP, hD⟩ := va_join (wr := [(wa, .inl (cI, 70, .inl nw))]) (w1 := [(g0, .inr (5, [.ref ra, .ref wa, .ref ta, .int kpt, .ref ma, .int mkd, .ref pa, .int (nI tn), .int (nI (xSp lt tn bf kf p9).1), .int ((xSp lt tn bf kf p9).2), .ref ba, .ref ka, .int (xSs lt tn bf p9), .ref fa, .ref qa, .ref ea, .ref za, .ref ya, .int wks])), (pa, .inl (cI, 96, .inl lt)), (ba, .inl (cC, 6, .inl bf)), (ka, .inl (cC, 5, .inl kf)), (fa, .inl (cI, 15, .inl (xSf lt tn bf kf g9 p9)))]) hP hD [0, 1, 2, 3, 4] [5] rfl rfl (by decide) (by decide) hk1 hFc hP1 hD1
  generalize H1 = H at hP hS ⊢
  have hP : va_P D vwCl [(wa, .inl (cI, 70, .inl nw)), (g0, .inr (5, [.ref ra, .ref wa, .ref ta, .int kpt, .ref ma, .int mkd, .ref pa, .int (nI tn), .int (nI (xSp lt tn bf kf p9).1), .int ((xSp lt tn bf kf p9).2), .ref ba, .ref ka, .int (xSs lt tn bf p9), .ref fa, .ref qa, .ref ea, .ref za, .ref ya, .int wks])), (pa, .inl (cI, 96, .inl lt)), (ba, .inl (cC, 6, .inl bf)), (ka, .inl (cC, 5, .inl kf)), (fa, .inl (cI, 15, .inl (xSf lt tn bf kf g9 p9)))] H := hP
  have hD : va_D A [(wa, .inl (cI, 70, .inl nw)), (g0, .inr (5, [.ref ra, .ref wa, .ref ta, .int kpt, .ref ma, .int mkd, .ref pa, .int (nI tn), .int (nI (xSp lt tn bf kf p9).1), .int ((xSp lt tn bf kf p9).2), .ref ba, .ref ka, .int (xSs lt tn bf p9), .ref fa, .ref qa, .ref ea, .ref za, .ref ya, .int wks])), (pa, .inl (cI, 96, .inl lt)), (ba, .inl (cC, 6, .inl bf)), (ka, .inl (cC, 5, .inl kf)), (fa, .inl (cI, 15, .inl (xSf lt tn bf kf g9 p9)))] := hD
  obtain ⟨q9, eq9⟩ : ∃ z : Nat × Int32, xSp lt tn bf kf p9 = z := ⟨_, rfl⟩
  obtain ⟨t9, et9⟩ : ∃ z : Int32, xSs lt tn bf p9 = z := ⟨_, rfl⟩
  obtain ⟨f9, ef9⟩ : ∃ z : Nat → Int32, xSf lt tn bf kf g9 p9 = z := ⟨_, rfl⟩
  rw [eq9, et9, ef9] at hP hD
  have hP : va_P D vwCl [(wa, .inl (cI, 70, .inl nw)), (g0, .inr (5, [.ref ra, .ref wa, .ref ta, .int kpt, .ref ma, .int mkd, .ref pa, .int (nI tn), .int (nI q9.1), .int (q9.2), .ref ba, .ref ka, .int t9, .ref fa, .ref qa, .ref ea, .ref za, .ref ya, .int wks])), (pa, .inl (cI, 96, .inl lt)), (ba, .inl (cC, 6, .inl bf)), (ka, .inl (cC, 5, .inl kf)), (fa, .inl (cI, 15, .inl f9))] H := hP
  have hD : va_D A [(wa, .inl (cI, 70, .inl nw)), (g0, .inr (5, [.ref ra, .ref wa, .ref ta, .int kpt, .ref ma, .int mkd, .ref pa, .int (nI tn), .int (nI q9.1), .int (q9.2), .ref ba, .ref ka, .int t9, .ref fa, .ref qa, .ref ea, .ref za, .ref ya, .int wks])), (pa, .inl (cI, 96, .inl lt)), (ba, .inl (cC, 6, .inl bf)), (ka, .inl (cC, 5, .inl kf)), (fa, .inl (cI, 15, .inl f9))] := hD
  have hle := xSp_le (lt := lt) (bf := bf) (kf := kf) h2
  rw [eq9] at hle
  refine lv_iinc (v := nI (i + 1)) (lv' := [(1, .int (nI (i + 1))), (0, .ref g0)]) hx hb dX5_read_16 hl (k := 0) rfl (nI_1 i) (by decide) rfl (fun ls hl => ?_)
  refine lv_aload_n hx hb dX5_read_19 rfl (lv_at hl 1 rfl) ?_
  refine va_get (D := D) (ci := 5) (v := .int (q9.2)) (C := RX5) (T := TX5) (N := 19) hx hb hts hwX5 hown hK hP 1 rfl rfl 9 (by decide) (hts (.fieldLink RX5 61 "WaitOrWalkOnModel" "well" "Z") (by decide +kernel)) (fun _ h9 => h9) rfl dX5_read_20 ?_
  refine lv_if_eq (tgt := 37) hx hb dX5_read_23 (by decide) (fun c_2 => ?_) (fun c_2 => ?_)
  · refine lv_aload_n hx hb dX5_read_37 rfl (lv_at hl 1 rfl) ?_
    refine va_get (D := D) (ci := 5) (v := .int (q9.2)) (C := RX5) (T := TX5) (N := 19) hx hb hts hwX5 hown hK hP 1 rfl rfl 9 (by decide) (hts (.fieldLink RX5 61 "WaitOrWalkOnModel" "well" "Z") (by decide +kernel)) (fun _ h9 => h9) rfl dX5_read_38 ?_
    refine lv_if_ne (tgt := 53) hx hb dX5_read_41 (by decide) (fun c_3 => absurd c_2 c_3) (fun c_3 => ?_)
    refine lv_sipush (v := -1000) hx hb dX5_read_44 (by decide) ?_
    refine lv_aload_n hx hb dX5_read_47 rfl (lv_at hl 1 rfl) ?_
    refine va_get (D := D) (ci := 5) (v := .int (nI q9.1)) (C := RX5) (T := TX5) (N := 19) hx hb hts hwX5 hown hK hP 1 rfl rfl 8 (by decide) (hts (.fieldLink RX5 64 "WaitOrWalkOnModel" "at" "I") (by decide +kernel)) (fun _ h9 => h9) rfl dX5_read_48 ?_
    refine lv_isub hx hb dX5_read_51 ?_
    have hP9 := hP.sub (ws' := [(g0, .inr (5, [.ref ra, .ref wa, .ref ta, .int kpt, .ref ma, .int mkd, .ref pa, .int (nI tn), .int (nI q9.1), .int (q9.2), .ref ba, .ref ka, .int t9, .ref fa, .ref qa, .ref ea, .ref za, .ref ya, .int wks])), (pa, .inl (cI, 96, .inl lt)), (ba, .inl (cC, 6, .inl bf)), (ka, .inl (cC, 5, .inl kf)), (fa, .inl (cI, 15, .inl f9)), (wa, .inl (cI, 70, .inl nw))]) [1, 2, 3, 4, 5, 0] rfl
    have hD9 := hD.sub (ws' := [(g0, .inr (5, [.ref ra, .ref wa, .ref ta, .int kpt, .ref ma, .int mkd, .ref pa, .int (nI tn), .int (nI q9.1), .int (q9.2), .ref ba, .ref ka, .int t9, .ref fa, .ref qa, .ref ea, .ref za, .ref ya, .int wks])), (pa, .inl (cI, 96, .inl lt)), (ba, .inl (cC, 6, .inl bf)), (ka, .inl (cC, 5, .inl kf)), (fa, .inl (cI, 15, .inl f9)), (wa, .inl (cI, 70, .inl nw))]) [1, 2, 3, 4, 5, 0] (by decide) rfl
    exact W.iret (v := (-1000) - (nI q9.1)) hx hb hr (fun t ht hW => ⟨⟨_, (), rfl, (xJ1_f hE h5 h2 h3 eq9 c_2 T).1, (nI q9.1 : Int32), (q9.2 : Int32), (t9 : Int32), (f9 : Nat → Int32), (nw : Nat → Int32), xJR_n hV hR hT (xJ1_f hE h5 h2 h3 eq9 c_2 T).2, by rw [ht]; exact hP9, hD9⟩, hS.F ht⟩) hS.2.2 dX5_read_52
  · refine lv_aload_n hx hb dX5_read_26 rfl (lv_at hl 1 rfl) ?_
    refine va_get (D := D) (ci := 5) (v := .int (nI q9.1)) (C := RX5) (T := TX5) (N := 19) hx hb hts hwX5 hown hK hP 1 rfl rfl 8 (by decide) (hts (.fieldLink RX5 64 "WaitOrWalkOnModel" "at" "I") (by decide +kernel)) (fun _ h9 => h9) rfl dX5_read_27 ?_
    refine lv_aload_n hx hb dX5_read_30 rfl (lv_at hl 1 rfl) ?_
    refine va_get (D := D) (ci := 5) (v := .int (nI tn)) (C := RX5) (T := TX5) (N := 19) hx hb hts hwX5 hown hK hP 1 rfl rfl 7 (by decide) (hts (.fieldLink RX5 57 "WaitOrWalkOnModel" "taped" "I") (by decide +kernel)) (fun _ h9 => h9) rfl dX5_read_31 ?_
    refine lv_icmp_lt (tgt := 12) hx hb dX5_read_34 (by decide) (fun c_4 => ?_) (fun c_4 => ?_)
    · have hh : ¬ (xSp lt tn bf kf p9).2 = 0 := by rw [eq9]; exact c_2
      have ha := xSp_adv hh
      rw [eq9] at ha
      have w := (nI_ltI (a := q9.1) (b := tn) (by omega) (by omega)).mp c_4
      have hs : ∀ v, xGd lt tn bf kf v q9 → xGd lt tn bf kf (v + (i + 1)) (0, 1) := fun v hv => by have w9 := h4 (v + 1) (fun _ => ⟨hh, by rw [eq9]; exact hv⟩); rw [show v + (i + 1) = v + 1 + i by omega]; exact w9
      have h5n := xJ1_s hE h5 h2 h3 eq9 hh w
      exact ih_12 (i + 1, q9, t9, f9) _ _ _ ⟨lv_sub hl [0, 1] rfl, hP.sub [1, 2, 3, 4, 5, 0] rfl, hD.sub [1, 2, 3, 4, 5, 0] (by decide) rfl, hS, by (try dsimp only); exact ⟨by omega, ha.2.2, ha.2.1, hs, h5n⟩⟩
    · refine lv_aload_n hx hb dX5_read_37 rfl (lv_at hl 1 rfl) ?_
      refine va_get (D := D) (ci := 5) (v := .int (q9.2)) (C := RX5) (T := TX5) (N := 19) hx hb hts hwX5 hown hK hP 1 rfl rfl 9 (by decide) (hts (.fieldLink RX5 61 "WaitOrWalkOnModel" "well" "Z") (by decide +kernel)) (fun _ h9 => h9) rfl dX5_read_38 ?_
      refine lv_if_ne (tgt := 53) hx hb dX5_read_41 (by decide) (fun c_5 => ?_) (fun c_5 => absurd c_5 c_2)
      have hh : ¬ (xSp lt tn bf kf p9).2 = 0 := by rw [eq9]; exact c_5
      have ha := xSp_adv hh
      rw [eq9] at ha
      have hg0 : xGd lt tn bf kf (1 + i) (0, 1) := h4 1 (fun _ => ⟨hh, by rw [eq9]; exact mt (nI_ltI (a := q9.1) (b := tn) (by omega) (by omega)).mpr c_4⟩)
      rw [ha.2.1] at hP hD
      have hP : va_P D vwCl [(wa, .inl (cI, 70, .inl nw)), (g0, .inr (5, [.ref ra, .ref wa, .ref ta, .int kpt, .ref ma, .int mkd, .ref pa, .int (nI tn), .int (nI q9.1), .int 1, .ref ba, .ref ka, .int t9, .ref fa, .ref qa, .ref ea, .ref za, .ref ya, .int wks])), (pa, .inl (cI, 96, .inl lt)), (ba, .inl (cC, 6, .inl bf)), (ka, .inl (cC, 5, .inl kf)), (fa, .inl (cI, 15, .inl f9))] H := hP
      have hD : va_D A [(wa, .inl (cI, 70, .inl nw)), (g0, .inr (5, [.ref ra, .ref wa, .ref ta, .int kpt, .ref ma, .int mkd, .ref pa, .int (nI tn), .int (nI q9.1), .int 1, .ref ba, .ref ka, .int t9, .ref fa, .ref qa, .ref ea, .ref za, .ref ya, .int wks])), (pa, .inl (cI, 96, .inl lt)), (ba, .inl (cC, 6, .inl bf)), (ka, .inl (cC, 5, .inl kf)), (fa, .inl (cI, 15, .inl f9))] := hD
      obtain ⟨hF0, hNS, hi97⟩ := xJ1_e hE h5 h2 h3 eq9 hh (mt (nI_ltI (a := q9.1) (b := tn) (by omega) (by omega)).mpr c_4)
      refine lv_aload_n hx hb dX5_read_53 rfl (lv_at hl 1 rfl) ?_
      refine lv_iconst (v := 0) hx hb dX5_read_54 (by decide) ?_
      refine va_put (D := D) (ci := 5) (v := .int 0) (ty := .int) (C := RX5) (T := TX5) (N := 19) hx hb hts hwX5 tyX5 tyX5_ok nmX5 hown hK hP hD hS 1 rfl rfl 8 (by decide) (hts (.fieldLink RX5 64 "WaitOrWalkOnModel" "at" "I") (by decide +kernel)) (fun _ h9 => h9) rfl (by decide +kernel) (by decide +kernel) rfl (Nat.le_of_ble_eq_true rfl) dX5_read_55 (fun H locs hP hD hS => ?_)
      have hP : va_P D vwCl [(wa, .inl (cI, 70, .inl nw)), (g0, .inr (5, [.ref ra, .ref wa, .ref ta, .int kpt, .ref ma, .int mkd, .ref pa, .int (nI tn), .int 0, .int 1, .ref ba, .ref ka, .int t9, .ref fa, .ref qa, .ref ea, .ref za, .ref ya, .int wks])), (pa, .inl (cI, 96, .inl lt)), (ba, .inl (cC, 6, .inl bf)), (ka, .inl (cC, 5, .inl kf)), (fa, .inl (cI, 15, .inl f9))] H := hP
      have hD : va_D A [(wa, .inl (cI, 70, .inl nw)), (g0, .inr (5, [.ref ra, .ref wa, .ref ta, .int kpt, .ref ma, .int mkd, .ref pa, .int (nI tn), .int 0, .int 1, .ref ba, .ref ka, .int t9, .ref fa, .ref qa, .ref ea, .ref za, .ref ya, .int wks])), (pa, .inl (cI, 96, .inl lt)), (ba, .inl (cC, 6, .inl bf)), (ka, .inl (cC, 5, .inl kf)), (fa, .inl (cI, 15, .inl f9))] := hD
      refine lv_aload_n hx hb dX5_read_58 rfl (lv_at hl 1 rfl) ?_
      refine va_get (D := D) (ci := 5) (v := .ref wa) (C := RX5) (T := TX5) (N := 19) hx hb hts hwX5 hown hK hP 1 rfl rfl 1 (by decide) (hts (.fieldLink RX5 19 "WaitOrWalkOnModel" "now" "[I") (by decide +kernel)) (fun _ h9 => h9) rfl dX5_read_59 ?_
      refine lv_iconst (v := 0) hx hb dX5_read_62 (by decide) ?_
      refine va_iald (D := D) hx hb hK hP 0 0 rfl rfl (by unfold vp_in; decide +kernel) dX5_read_63 ?_
      refine xv_int (y := nw 0) rfl ?_
      refine lv_istore_n (lv' := [(2, .int (nw 0)), (1, .int (nI (i + 1))), (0, .ref g0)]) hx hb dX5_read_64 rfl hl (by decide) rfl (fun ls hl => ?_)
      refine lv_aload_n hx hb dX5_read_65 rfl (lv_at hl 2 rfl) ?_
      refine va_get (D := D) (ci := 5) (v := .ref wa) (C := RX5) (T := TX5) (N := 19) hx hb hts hwX5 hown hK hP 1 rfl rfl 1 (by decide) (hts (.fieldLink RX5 19 "WaitOrWalkOnModel" "now" "[I") (by decide +kernel)) (fun _ h9 => h9) rfl dX5_read_66 ?_
      refine lv_iconst (v := 3) hx hb dX5_read_69 (by decide) ?_
      refine va_iald (D := D) hx hb hK hP 0 0 rfl rfl (by unfold vp_in; decide +kernel) dX5_read_70 ?_
      refine xv_int (y := nw 3) rfl ?_
      refine lv_istore_n (lv' := [(3, .int (nw 3)), (2, .int (nw 0)), (1, .int (nI (i + 1))), (0, .ref g0)]) hx hb dX5_read_71 rfl hl (by decide) rfl (fun ls hl => ?_)
      refine xl_loopH (σ := Nat × Nat × (Nat × Int32) × Int32 × (Nat → Int32) × Int32 × Int32) (fun n q H locs ls => lv_has ls 5 [(3, .int q.2.2.2.2.2.2), (2, .int q.2.2.2.2.2.1), (1, .int (nI (i + 1))), (0, .ref g0)] ∧ va_P D vwCl [(wa, .inl (cI, 70, .inl nw)), (g0, .inr (5, [.ref ra, .ref wa, .ref ta, .int kpt, .ref ma, .int mkd, .ref pa, .int (nI tn), .int (nI q.2.2.1.1), .int q.2.2.1.2, .ref ba, .ref ka, .int q.2.2.2.1, .ref fa, .ref qa, .ref ea, .ref za, .ref ya, .int wks])), (pa, .inl (cI, 96, .inl lt)), (ba, .inl (cC, 6, .inl bf)), (ka, .inl (cC, 5, .inl kf)), (fa, .inl (cI, 15, .inl q.2.2.2.2.1))] H ∧ va_D A [(wa, .inl (cI, 70, .inl nw)), (g0, .inr (5, [.ref ra, .ref wa, .ref ta, .int kpt, .ref ma, .int mkd, .ref pa, .int (nI tn), .int (nI q.2.2.1.1), .int q.2.2.1.2, .ref ba, .ref ka, .int q.2.2.2.1, .ref fa, .ref qa, .ref ea, .ref za, .ref ya, .int wks])), (pa, .inl (cI, 96, .inl lt)), (ba, .inl (cC, 6, .inl bf)), (ka, .inl (cC, 5, .inl kf)), (fa, .inl (cI, 15, .inl q.2.2.2.2.1))] ∧ va_S A s.heap H locs ∧ (q.1 < n) ∧ (q.2.2.1.1 ≤ tn) ∧ (q.2.2.1.2 = 1) ∧ (xGd lt tn bf kf q.1 q.2.2.1) ∧ (∀ v, xVl lt tn bf kf v q.2.2.1 q.2.2.2.2.2.1 q.2.2.2.2.2.2 → xVl lt tn bf kf (v + q.2.1) (0, 1) (nw 0) (nw 3)) ∧ (xJ2 lt tn T q.2.1 q.2.2.1 q.2.2.2.2.2.1 q.2.2.2.2.2.2)) (2 + i) (1 + i, 0, (0, 1), t9, f9, nw 0, nw 3) ⟨lv_sub hl [0, 1, 2, 3] rfl, hP.sub [0, 1, 2, 3, 4, 5] rfl, hD.sub [0, 1, 2, 3, 4, 5] (by decide) rfl, hS, by (try dsimp only); exact ⟨by omega, by omega, rfl, hg0, fun v h => h, xJ2_0 hV hT⟩⟩ (fun q H lc ls h => absurd h.2.2.2.2.1 (Nat.not_lt_zero _)) ?_
      intro n_72 q_72 H locs ls ih_72 hI_72
      obtain ⟨hl, hP, hD, hS, hI_72⟩ := hI_72
      obtain ⟨u8, c8, p8, s8, g8, s1, l1⟩ := q_72
      obtain ⟨k0, k1, k2, k3, k4, k5⟩ := hI_72
      try dsimp only at hl hP hD k0 k1 k2 k3 k4 k5
      refine lv_aload_n hx hb dX5_read_72 rfl (lv_at hl 3 rfl) ?_
      refine va_get (D := D) (ci := 5) (v := .int (nI p8.1)) (C := RX5) (T := TX5) (N := 19) hx hb hts hwX5 hown hK hP 1 rfl rfl 8 (by decide) (hts (.fieldLink RX5 64 "WaitOrWalkOnModel" "at" "I") (by decide +kernel)) (fun _ h9 => h9) rfl dX5_read_73 ?_
      refine lv_aload_n hx hb dX5_read_76 rfl (lv_at hl 3 rfl) ?_
      refine va_get (D := D) (ci := 5) (v := .int (nI tn)) (C := RX5) (T := TX5) (N := 19) hx hb hts hwX5 hown hK hP 1 rfl rfl 7 (by decide) (hts (.fieldLink RX5 57 "WaitOrWalkOnModel" "taped" "I") (by decide +kernel)) (fun _ h9 => h9) rfl dX5_read_77 ?_
      refine lv_icmp_ge (tgt := 143) hx hb dX5_read_80 (by decide) (fun c_6 => ?_) (fun c_6 => ?_)
      · have hR9 := xJ2_e k5 (mt (nI_ltI (a := p8.1) (b := tn) (by omega) (by omega)).mpr (Int32.not_lt.mpr c_6)) hF0 hNS
        have hv0 := k4 0 (mt (nI_ltI (a := p8.1) (b := tn) (by omega) (by omega)).mpr (Int32.not_lt.mpr c_6))
        rw [hV.1.1, hV.2.1.1] at hv0
        rw [k2] at hP hD
        have hP : va_P D vwCl [(wa, .inl (cI, 70, .inl nw)), (g0, .inr (5, [.ref ra, .ref wa, .ref ta, .int kpt, .ref ma, .int mkd, .ref pa, .int (nI tn), .int (nI p8.1), .int 1, .ref ba, .ref ka, .int s8, .ref fa, .ref qa, .ref ea, .ref za, .ref ya, .int wks])), (pa, .inl (cI, 96, .inl lt)), (ba, .inl (cC, 6, .inl bf)), (ka, .inl (cC, 5, .inl kf)), (fa, .inl (cI, 15, .inl g8))] H := hP
        have hD : va_D A [(wa, .inl (cI, 70, .inl nw)), (g0, .inr (5, [.ref ra, .ref wa, .ref ta, .int kpt, .ref ma, .int mkd, .ref pa, .int (nI tn), .int (nI p8.1), .int 1, .ref ba, .ref ka, .int s8, .ref fa, .ref qa, .ref ea, .ref za, .ref ya, .int wks])), (pa, .inl (cI, 96, .inl lt)), (ba, .inl (cC, 6, .inl bf)), (ka, .inl (cC, 5, .inl kf)), (fa, .inl (cI, 15, .inl g8))] := hD
        refine lv_aload_n hx hb dX5_read_143 rfl (lv_at hl 3 rfl) ?_
        refine lv_iconst (v := 0) hx hb dX5_read_144 (by decide) ?_
        refine va_put (D := D) (ci := 5) (v := .int 0) (ty := .int) (C := RX5) (T := TX5) (N := 19) hx hb hts hwX5 tyX5 tyX5_ok nmX5 hown hK hP hD hS 1 rfl rfl 8 (by decide) (hts (.fieldLink RX5 64 "WaitOrWalkOnModel" "at" "I") (by decide +kernel)) (fun _ h9 => h9) rfl (by decide +kernel) (by decide +kernel) rfl (Nat.le_of_ble_eq_true rfl) dX5_read_145 (fun H locs hP hD hS => ?_)
        have hP : va_P D vwCl [(wa, .inl (cI, 70, .inl nw)), (g0, .inr (5, [.ref ra, .ref wa, .ref ta, .int kpt, .ref ma, .int mkd, .ref pa, .int (nI tn), .int 0, .int 1, .ref ba, .ref ka, .int s8, .ref fa, .ref qa, .ref ea, .ref za, .ref ya, .int wks])), (pa, .inl (cI, 96, .inl lt)), (ba, .inl (cC, 6, .inl bf)), (ka, .inl (cC, 5, .inl kf)), (fa, .inl (cI, 15, .inl g8))] H := hP
        have hD : va_D A [(wa, .inl (cI, 70, .inl nw)), (g0, .inr (5, [.ref ra, .ref wa, .ref ta, .int kpt, .ref ma, .int mkd, .ref pa, .int (nI tn), .int 0, .int 1, .ref ba, .ref ka, .int s8, .ref fa, .ref qa, .ref ea, .ref za, .ref ya, .int wks])), (pa, .inl (cI, 96, .inl lt)), (ba, .inl (cC, 6, .inl bf)), (ka, .inl (cC, 5, .inl kf)), (fa, .inl (cI, 15, .inl g8))] := hD
        refine xl_loopH (σ := Nat × (Nat × Int32) × Int32 × (Nat → Int32) × (Nat → Int32) × Nat × Nat) (fun n q H locs ls => lv_has ls 5 [(1, .int (nI (i + 1))), (0, .ref g0)] ∧ va_P D vwCl [(wa, .inl (cI, 70, .inl q.2.2.2.2.1)), (g0, .inr (5, [.ref ra, .ref wa, .ref ta, .int kpt, .ref ma, .int mkd, .ref pa, .int (nI tn), .int (nI q.2.1.1), .int q.2.1.2, .ref ba, .ref ka, .int q.2.2.1, .ref fa, .ref qa, .ref ea, .ref za, .ref ya, .int wks])), (pa, .inl (cI, 96, .inl lt)), (ba, .inl (cC, 6, .inl bf)), (ka, .inl (cC, 5, .inl kf)), (fa, .inl (cI, 15, .inl q.2.2.2.1))] H ∧ va_D A [(wa, .inl (cI, 70, .inl q.2.2.2.2.1)), (g0, .inr (5, [.ref ra, .ref wa, .ref ta, .int kpt, .ref ma, .int mkd, .ref pa, .int (nI tn), .int (nI q.2.1.1), .int q.2.1.2, .ref ba, .ref ka, .int q.2.2.1, .ref fa, .ref qa, .ref ea, .ref za, .ref ya, .int wks])), (pa, .inl (cI, 96, .inl lt)), (ba, .inl (cC, 6, .inl bf)), (ka, .inl (cC, 5, .inl kf)), (fa, .inl (cI, 15, .inl q.2.2.2.1))] ∧ va_S A s.heap H locs ∧ (q.1 < n) ∧ (q.2.1.1 ≤ tn) ∧ (q.2.1.2 = 1) ∧ (xVl lt tn bf kf q.1 q.2.1 (nI q.2.2.2.2.2.1) (nI q.2.2.2.2.2.2)) ∧ (xVd q.2.2.2.2.1 q.2.2.2.2.2.1 q.2.2.2.2.2.2) ∧ (xJ3 lt tn T q.2.1 q.2.2.2.2.1 q.2.2.2.2.2.1 q.2.2.2.2.2.2)) (1 + (0 + c8)) (0 + c8, (0, 1), s8, g8, nw, st, ln) ⟨lv_sub hl [2, 3] rfl, hP.sub [0, 1, 2, 3, 4, 5] rfl, hD.sub [0, 1, 2, 3, 4, 5] (by decide) rfl, hS, by (try dsimp only); exact ⟨by omega, by omega, rfl, hv0, hV, xJ3_0 hR hT⟩⟩ (fun q H lc ls h => absurd h.2.2.2.2.1 (Nat.not_lt_zero _)) ?_
        intro n_148 q_148 H locs ls ih_148 hI_148
        obtain ⟨hl, hP, hD, hS, hI_148⟩ := hI_148
        obtain ⟨u7, p7, s7, g7, nw7, st7, ln7⟩ := q_148
        obtain ⟨o0, o1, o2, o3, o4, o5⟩ := hI_148
        try dsimp only at hl hP hD o0 o1 o2 o3 o4 o5
        refine lv_aload_n hx hb dX5_read_148 rfl (lv_at hl 1 rfl) ?_
        refine va_get (D := D) (ci := 5) (v := .int (nI p7.1)) (C := RX5) (T := TX5) (N := 19) hx hb hts hwX5 hown hK hP 1 rfl rfl 8 (by decide) (hts (.fieldLink RX5 64 "WaitOrWalkOnModel" "at" "I") (by decide +kernel)) (fun _ h9 => h9) rfl dX5_read_149 ?_
        refine lv_aload_n hx hb dX5_read_152 rfl (lv_at hl 1 rfl) ?_
        refine va_get (D := D) (ci := 5) (v := .int (nI tn)) (C := RX5) (T := TX5) (N := 19) hx hb hts hwX5 hown hK hP 1 rfl rfl 7 (by decide) (hts (.fieldLink RX5 57 "WaitOrWalkOnModel" "taped" "I") (by decide +kernel)) (fun _ h9 => h9) rfl dX5_read_153 ?_
        refine lv_icmp_ge (tgt := 170) hx hb dX5_read_156 (by decide) (fun c_7 => ?_) (fun c_7 => ?_)
        · refine lv_iload_n hx hb dX5_read_170 rfl (lv_at hl 0 rfl) ?_
          have hP9 := hP.sub (ws' := [(g0, .inr (5, [.ref ra, .ref wa, .ref ta, .int kpt, .ref ma, .int mkd, .ref pa, .int (nI tn), .int (nI p7.1), .int p7.2, .ref ba, .ref ka, .int s7, .ref fa, .ref qa, .ref ea, .ref za, .ref ya, .int wks])), (pa, .inl (cI, 96, .inl lt)), (ba, .inl (cC, 6, .inl bf)), (ka, .inl (cC, 5, .inl kf)), (fa, .inl (cI, 15, .inl g7)), (wa, .inl (cI, 70, .inl nw7))]) [1, 2, 3, 4, 5, 0] rfl
          have hD9 := hD.sub (ws' := [(g0, .inr (5, [.ref ra, .ref wa, .ref ta, .int kpt, .ref ma, .int mkd, .ref pa, .int (nI tn), .int (nI p7.1), .int p7.2, .ref ba, .ref ka, .int s7, .ref fa, .ref qa, .ref ea, .ref za, .ref ya, .int wks])), (pa, .inl (cI, 96, .inl lt)), (ba, .inl (cC, 6, .inl bf)), (ka, .inl (cC, 5, .inl kf)), (fa, .inl (cI, 15, .inl g7)), (wa, .inl (cI, 70, .inl nw7))]) [1, 2, 3, 4, 5, 0] (by decide) rfl
          exact W.iret (v := nI (i + 1)) hx hb hr (fun t ht hW => ⟨⟨_, (), rfl, hR9.symm, (nI p7.1 : Int32), (p7.2 : Int32), (s7 : Int32), (g7 : Nat → Int32), (nw7 : Nat → Int32), xJ3_e o5 (mt (nI_ltI (a := p7.1) (b := tn) (by omega) (by omega)).mpr (Int32.not_lt.mpr c_7)) hF0 hi97 hR9 o4, by rw [ht]; exact hP9, hD9⟩, hS.F ht⟩) hS.2.2 dX5_read_171
        · have w7 := (nI_ltI (a := p7.1) (b := tn) (by omega) (by omega)).mp (Int32.not_le.mp c_7)
          obtain ⟨v7, rfl, hq7⟩ := xVl_s o3 w7
          have ha7 := xSp_adv hq7.1
          have hm7 : ¬ xMb (xSs lt tn bf p7) (xSf lt tn bf kf g7 p7) (nI st7) (nI ln7) = 0 := by rw [xMb_fa lt tn bf kf g7 (fun _ => 0) p7]; exact hq7.2.1
          have hn7 := hq7.2.2
          rw [xN0_e, xN3_e] at hn7
          refine lv_aload_n hx hb dX5_read_159 rfl (lv_at hl 1 rfl) ?_
          have hPc := hP.sub (ws' := [(g0, .inr (5, [.ref ra, .ref wa, .ref ta, .int kpt, .ref ma, .int mkd, .ref pa, .int (nI tn), .int (nI p7.1), .int p7.2, .ref ba, .ref ka, .int s7, .ref fa, .ref qa, .ref ea, .ref za, .ref ya, .int wks])), (pa, .inl (cI, 96, .inl lt)), (ba, .inl (cC, 6, .inl bf)), (ka, .inl (cC, 5, .inl kf)), (fa, .inl (cI, 15, .inl g7))]) [1, 2, 3, 4, 5] rfl
          have hDc := hD.sub (ws' := [(g0, .inr (5, [.ref ra, .ref wa, .ref ta, .int kpt, .ref ma, .int mkd, .ref pa, .int (nI tn), .int (nI p7.1), .int p7.2, .ref ba, .ref ka, .int s7, .ref fa, .ref qa, .ref ea, .ref za, .ref ya, .int wks])), (pa, .inl (cI, 96, .inl lt)), (ba, .inl (cC, 6, .inl bf)), (ka, .inl (cC, 5, .inl kf)), (fa, .inl (cI, 15, .inl g7))]) [1, 2, 3, 4, 5] (by decide) rfl
          have hFc := va_free (wc := [(g0, .inr (5, [.ref ra, .ref wa, .ref ta, .int kpt, .ref ma, .int mkd, .ref pa, .int (nI tn), .int (nI p7.1), .int p7.2, .ref ba, .ref ka, .int s7, .ref fa, .ref qa, .ref ea, .ref za, .ref ya, .int wks])), (pa, .inl (cI, 96, .inl lt)), (ba, .inl (cC, 6, .inl bf)), (ka, .inl (cC, 5, .inl kf)), (fa, .inl (cI, 15, .inl g7))]) hD hS hA [1, 2, 3, 4, 5] rfl
          refine va_callv (va_runV (As := []) (rest := []) ⟨hx, hb, hml, hown, hts⟩ (g_X5_statement l D cI cL cZ cC _ g0 ra wa ta ma pa ba ka fa qa ea za ya kpt mkd s7 wks tn p7 lt bf kf g7 (htn) (o1)) (cwV 0 hts gX5_read_X5_statement rfl rfl rfl (by decide +kernel) ⟨Nat.le_of_ble_eq_true rfl, Nat.le_of_ble_eq_true rfl⟩) ⟨wPc_bl, va_recv hK hPc (ci := 5) (q0 := 0) rfl rfl, wPc_use hPc hK hDc⟩ rfl rfl hl.1 rfl (lv_room (Nat.le_of_ble_eq_true rfl)) dX5_read_160 ⟨Nat.le_of_ble_eq_true rfl, Nat.le_of_ble_eq_true rfl⟩) hS (fun q _ h => hFc q h) hFc (fun u_8 t H1 locs ht hvm hw hB hz1 hk1 hS => ?_)
          obtain ⟨hP1, hD1⟩ := hB
          rw [ht] at hP1
          obtain ⟨hP, hD⟩ := va_join (wr := [(wa, .inl (cI, 70, .inl nw7))]) (w1 := [(g0, .inr (5, [.ref ra, .ref wa, .ref ta, .int kpt, .ref ma, .int mkd, .ref pa, .int (nI tn), .int (nI (xSp lt tn bf kf p7).1), .int ((xSp lt tn bf kf p7).2), .ref ba, .ref ka, .int (xSs lt tn bf p7), .ref fa, .ref qa, .ref ea, .ref za, .ref ya, .int wks])), (pa, .inl (cI, 96, .inl lt)), (ba, .inl (cC, 6, .inl bf)), (ka, .inl (cC, 5, .inl kf)), (fa, .inl (cI, 15, .inl (xSf lt tn bf kf g7 p7)))]) hP hD [1, 2, 3, 4, 5] [0] rfl rfl (by decide) (by decide) hk1 hFc hP1 hD1
          generalize H1 = H at hP hS ⊢
          have hP : va_P D vwCl [(wa, .inl (cI, 70, .inl nw7)), (g0, .inr (5, [.ref ra, .ref wa, .ref ta, .int kpt, .ref ma, .int mkd, .ref pa, .int (nI tn), .int (nI (xSp lt tn bf kf p7).1), .int ((xSp lt tn bf kf p7).2), .ref ba, .ref ka, .int (xSs lt tn bf p7), .ref fa, .ref qa, .ref ea, .ref za, .ref ya, .int wks])), (pa, .inl (cI, 96, .inl lt)), (ba, .inl (cC, 6, .inl bf)), (ka, .inl (cC, 5, .inl kf)), (fa, .inl (cI, 15, .inl (xSf lt tn bf kf g7 p7)))] H := hP
          have hD : va_D A [(wa, .inl (cI, 70, .inl nw7)), (g0, .inr (5, [.ref ra, .ref wa, .ref ta, .int kpt, .ref ma, .int mkd, .ref pa, .int (nI tn), .int (nI (xSp lt tn bf kf p7).1), .int ((xSp lt tn bf kf p7).2), .ref ba, .ref ka, .int (xSs lt tn bf p7), .ref fa, .ref qa, .ref ea, .ref za, .ref ya, .int wks])), (pa, .inl (cI, 96, .inl lt)), (ba, .inl (cC, 6, .inl bf)), (ka, .inl (cC, 5, .inl kf)), (fa, .inl (cI, 15, .inl (xSf lt tn bf kf g7 p7)))] := hD
          obtain ⟨q7, eq7⟩ : ∃ z : Nat × Int32, xSp lt tn bf kf p7 = z := ⟨_, rfl⟩
          obtain ⟨t7, et7⟩ : ∃ z : Int32, xSs lt tn bf p7 = z := ⟨_, rfl⟩
          obtain ⟨f7, ef7⟩ : ∃ z : Nat → Int32, xSf lt tn bf kf g7 p7 = z := ⟨_, rfl⟩
          rw [eq7, et7, ef7] at hP hD
          have hP : va_P D vwCl [(wa, .inl (cI, 70, .inl nw7)), (g0, .inr (5, [.ref ra, .ref wa, .ref ta, .int kpt, .ref ma, .int mkd, .ref pa, .int (nI tn), .int (nI q7.1), .int (q7.2), .ref ba, .ref ka, .int t7, .ref fa, .ref qa, .ref ea, .ref za, .ref ya, .int wks])), (pa, .inl (cI, 96, .inl lt)), (ba, .inl (cC, 6, .inl bf)), (ka, .inl (cC, 5, .inl kf)), (fa, .inl (cI, 15, .inl f7))] H := hP
          have hD : va_D A [(wa, .inl (cI, 70, .inl nw7)), (g0, .inr (5, [.ref ra, .ref wa, .ref ta, .int kpt, .ref ma, .int mkd, .ref pa, .int (nI tn), .int (nI q7.1), .int (q7.2), .ref ba, .ref ka, .int t7, .ref fa, .ref qa, .ref ea, .ref za, .ref ya, .int wks])), (pa, .inl (cI, 96, .inl lt)), (ba, .inl (cC, 6, .inl bf)), (ka, .inl (cC, 5, .inl kf)), (fa, .inl (cI, 15, .inl f7))] := hD
          rw [eq7] at ha7
          rw [et7, ef7] at hm7
          rw [eq7, et7] at hn7
          have hc7 := xVd_cm o4 hm7 (fun h => by rw [← ef7]; exact xSf_b (by rw [et7]; exact h) o1)
          refine lv_aload_n hx hb dX5_read_163 rfl (lv_at hl 1 rfl) ?_
          have hPc := hP.sub (ws' := [(g0, .inr (5, [.ref ra, .ref wa, .ref ta, .int kpt, .ref ma, .int mkd, .ref pa, .int (nI tn), .int (nI q7.1), .int q7.2, .ref ba, .ref ka, .int t7, .ref fa, .ref qa, .ref ea, .ref za, .ref ya, .int wks])), (wa, .inl (cI, 70, .inl nw7)), (fa, .inl (cI, 15, .inl f7))]) [1, 0, 5] rfl
          have hDc := hD.sub (ws' := [(g0, .inr (5, [.ref ra, .ref wa, .ref ta, .int kpt, .ref ma, .int mkd, .ref pa, .int (nI tn), .int (nI q7.1), .int q7.2, .ref ba, .ref ka, .int t7, .ref fa, .ref qa, .ref ea, .ref za, .ref ya, .int wks])), (wa, .inl (cI, 70, .inl nw7)), (fa, .inl (cI, 15, .inl f7))]) [1, 0, 5] (by decide) rfl
          have hFc := va_free (wc := [(g0, .inr (5, [.ref ra, .ref wa, .ref ta, .int kpt, .ref ma, .int mkd, .ref pa, .int (nI tn), .int (nI q7.1), .int q7.2, .ref ba, .ref ka, .int t7, .ref fa, .ref qa, .ref ea, .ref za, .ref ya, .int wks])), (wa, .inl (cI, 70, .inl nw7)), (fa, .inl (cI, 15, .inl f7))]) hD hS hA [1, 0, 5] rfl
          refine va_callv (va_runV (As := []) (rest := []) ⟨hx, hb, hml, hown, hts⟩ (g_X5_come l D cI cL cZ cC _ g0 ra wa ta ma pa ba ka fa qa ea za ya kpt mkd (nI tn) (nI q7.1) q7.2 t7 wks st7 nw7 ln7 f7 (o4.1.1) (o4.1.2.1) (o4.1.2.2) (o4.2.1.1) (o4.2.1.2) (fun h => (nI_ltI (a := ln7) (b := 3) (by have := o4.2.1.2; omega) (by decide)).mp (xMb_3 hm7 h).2)) (cwV 0 hts gX5_read_X5_come rfl rfl rfl (by decide +kernel) ⟨Nat.le_of_ble_eq_true rfl, Nat.le_of_ble_eq_true rfl⟩) ⟨wPc_bl, va_recv hK hPc (ci := 5) (q0 := 0) rfl rfl, wPc_use hPc hK hDc⟩ rfl rfl hl.1 rfl (lv_room (Nat.le_of_ble_eq_true rfl)) dX5_read_164 ⟨Nat.le_of_ble_eq_true rfl, Nat.le_of_ble_eq_true rfl⟩) hS (fun q _ h => hFc q h) hFc (fun u_9 t H1 locs ht hvm hw hB hz1 hk1 hS => ?_)
          obtain ⟨hP1, hD1⟩ := hB
          rw [ht] at hP1
          obtain ⟨hP, hD⟩ := va_join (wr := [(pa, .inl (cI, 96, .inl lt)), (ba, .inl (cC, 6, .inl bf)), (ka, .inl (cC, 5, .inl kf))]) (w1 := [(g0, .inr (5, [.ref ra, .ref wa, .ref ta, .int kpt, .ref ma, .int mkd, .ref pa, .int (nI tn), .int (nI q7.1), .int q7.2, .ref ba, .ref ka, .int t7, .ref fa, .ref qa, .ref ea, .ref za, .ref ya, .int wks])), (wa, .inl (cI, 70, .inl (xCm t7 f7 nw7 st7 ln7))), (fa, .inl (cI, 15, .inl f7))]) hP hD [1, 0, 5] [2, 3, 4] rfl rfl (by decide) (by decide) hk1 hFc hP1 hD1
          generalize H1 = H at hP hS ⊢
          have hP : va_P D vwCl [(pa, .inl (cI, 96, .inl lt)), (ba, .inl (cC, 6, .inl bf)), (ka, .inl (cC, 5, .inl kf)), (g0, .inr (5, [.ref ra, .ref wa, .ref ta, .int kpt, .ref ma, .int mkd, .ref pa, .int (nI tn), .int (nI q7.1), .int q7.2, .ref ba, .ref ka, .int t7, .ref fa, .ref qa, .ref ea, .ref za, .ref ya, .int wks])), (wa, .inl (cI, 70, .inl (xCm t7 f7 nw7 st7 ln7))), (fa, .inl (cI, 15, .inl f7))] H := hP
          have hD : va_D A [(pa, .inl (cI, 96, .inl lt)), (ba, .inl (cC, 6, .inl bf)), (ka, .inl (cC, 5, .inl kf)), (g0, .inr (5, [.ref ra, .ref wa, .ref ta, .int kpt, .ref ma, .int mkd, .ref pa, .int (nI tn), .int (nI q7.1), .int q7.2, .ref ba, .ref ka, .int t7, .ref fa, .ref qa, .ref ea, .ref za, .ref ya, .int wks])), (wa, .inl (cI, 70, .inl (xCm t7 f7 nw7 st7 ln7))), (fa, .inl (cI, 15, .inl f7))] := hD
          refine lv_goto (tgt := 148) hx hb dX5_read_167 (by decide) ?_
          have o5n := xJ3_s hE o5 w7 o2 eq7 et7 ef7 hq7.1 o4 hm7
          exact ih_148 (v7, q7, t7, f7, xCm t7 f7 nw7 st7 ln7, st7 + xN0 t7, ln7 + xN3 t7) _ _ _ ⟨lv_sub hl [0, 1] rfl, hP.sub [4, 3, 0, 1, 2, 5] rfl, hD.sub [4, 3, 0, 1, 2, 5] (by decide) rfl, hS, by (try dsimp only); exact ⟨by omega, ha7.2.2, ha7.2.1, hn7, hc7, o5n⟩⟩
      · have w8 := (nI_ltI (a := p8.1) (b := tn) (by omega) (by omega)).mp (Int32.not_le.mp c_6)
        obtain ⟨v8, rfl, hq8⟩ := xGd_s k3 w8
        have ha8 := xSp_adv hq8.1
        refine lv_aload_n hx hb dX5_read_83 rfl (lv_at hl 3 rfl) ?_
        refine va_get (D := D) (ci := 5) (v := .int (nI p8.1)) (C := RX5) (T := TX5) (N := 19) hx hb hts hwX5 hown hK hP 1 rfl rfl 8 (by decide) (hts (.fieldLink RX5 64 "WaitOrWalkOnModel" "at" "I") (by decide +kernel)) (fun _ h9 => h9) rfl dX5_read_84 ?_
        refine lv_istore (lv' := [(4, .int (nI p8.1)), (3, .int l1), (2, .int s1), (1, .int (nI (i + 1))), (0, .ref g0)]) hx hb dX5_read_87 hl (by decide) rfl (fun ls hl => ?_)
        refine lv_aload_n hx hb dX5_read_89 rfl (lv_at hl 4 rfl) ?_
        have hPc := hP.sub (ws' := [(g0, .inr (5, [.ref ra, .ref wa, .ref ta, .int kpt, .ref ma, .int mkd, .ref pa, .int (nI tn), .int (nI p8.1), .int p8.2, .ref ba, .ref ka, .int s8, .ref fa, .ref qa, .ref ea, .ref za, .ref ya, .int wks])), (pa, .inl (cI, 96, .inl lt)), (ba, .inl (cC, 6, .inl bf)), (ka, .inl (cC, 5, .inl kf)), (fa, .inl (cI, 15, .inl g8))]) [1, 2, 3, 4, 5] rfl
        have hDc := hD.sub (ws' := [(g0, .inr (5, [.ref ra, .ref wa, .ref ta, .int kpt, .ref ma, .int mkd, .ref pa, .int (nI tn), .int (nI p8.1), .int p8.2, .ref ba, .ref ka, .int s8, .ref fa, .ref qa, .ref ea, .ref za, .ref ya, .int wks])), (pa, .inl (cI, 96, .inl lt)), (ba, .inl (cC, 6, .inl bf)), (ka, .inl (cC, 5, .inl kf)), (fa, .inl (cI, 15, .inl g8))]) [1, 2, 3, 4, 5] (by decide) rfl
        have hFc := va_free (wc := [(g0, .inr (5, [.ref ra, .ref wa, .ref ta, .int kpt, .ref ma, .int mkd, .ref pa, .int (nI tn), .int (nI p8.1), .int p8.2, .ref ba, .ref ka, .int s8, .ref fa, .ref qa, .ref ea, .ref za, .ref ya, .int wks])), (pa, .inl (cI, 96, .inl lt)), (ba, .inl (cC, 6, .inl bf)), (ka, .inl (cC, 5, .inl kf)), (fa, .inl (cI, 15, .inl g8))]) hD hS hA [1, 2, 3, 4, 5] rfl
        refine va_callv (va_runV (As := []) (rest := []) ⟨hx, hb, hml, hown, hts⟩ (g_X5_statement l D cI cL cZ cC _ g0 ra wa ta ma pa ba ka fa qa ea za ya kpt mkd s8 wks tn p8 lt bf kf g8 (htn) (k1)) (cwV 0 hts gX5_read_X5_statement rfl rfl rfl (by decide +kernel) ⟨Nat.le_of_ble_eq_true rfl, Nat.le_of_ble_eq_true rfl⟩) ⟨wPc_bl, va_recv hK hPc (ci := 5) (q0 := 0) rfl rfl, wPc_use hPc hK hDc⟩ rfl rfl hl.1 rfl (lv_room (Nat.le_of_ble_eq_true rfl)) dX5_read_90 ⟨Nat.le_of_ble_eq_true rfl, Nat.le_of_ble_eq_true rfl⟩) hS (fun q _ h => hFc q h) hFc (fun u_10 t H1 locs ht hvm hw hB hz1 hk1 hS => ?_)
        obtain ⟨hP1, hD1⟩ := hB
        rw [ht] at hP1
        obtain ⟨hP, hD⟩ := va_join (wr := [(wa, .inl (cI, 70, .inl nw))]) (w1 := [(g0, .inr (5, [.ref ra, .ref wa, .ref ta, .int kpt, .ref ma, .int mkd, .ref pa, .int (nI tn), .int (nI (xSp lt tn bf kf p8).1), .int ((xSp lt tn bf kf p8).2), .ref ba, .ref ka, .int (xSs lt tn bf p8), .ref fa, .ref qa, .ref ea, .ref za, .ref ya, .int wks])), (pa, .inl (cI, 96, .inl lt)), (ba, .inl (cC, 6, .inl bf)), (ka, .inl (cC, 5, .inl kf)), (fa, .inl (cI, 15, .inl (xSf lt tn bf kf g8 p8)))]) hP hD [1, 2, 3, 4, 5] [0] rfl rfl (by decide) (by decide) hk1 hFc hP1 hD1
        generalize H1 = H at hP hS ⊢
        have hP : va_P D vwCl [(wa, .inl (cI, 70, .inl nw)), (g0, .inr (5, [.ref ra, .ref wa, .ref ta, .int kpt, .ref ma, .int mkd, .ref pa, .int (nI tn), .int (nI (xSp lt tn bf kf p8).1), .int ((xSp lt tn bf kf p8).2), .ref ba, .ref ka, .int (xSs lt tn bf p8), .ref fa, .ref qa, .ref ea, .ref za, .ref ya, .int wks])), (pa, .inl (cI, 96, .inl lt)), (ba, .inl (cC, 6, .inl bf)), (ka, .inl (cC, 5, .inl kf)), (fa, .inl (cI, 15, .inl (xSf lt tn bf kf g8 p8)))] H := hP
        have hD : va_D A [(wa, .inl (cI, 70, .inl nw)), (g0, .inr (5, [.ref ra, .ref wa, .ref ta, .int kpt, .ref ma, .int mkd, .ref pa, .int (nI tn), .int (nI (xSp lt tn bf kf p8).1), .int ((xSp lt tn bf kf p8).2), .ref ba, .ref ka, .int (xSs lt tn bf p8), .ref fa, .ref qa, .ref ea, .ref za, .ref ya, .int wks])), (pa, .inl (cI, 96, .inl lt)), (ba, .inl (cC, 6, .inl bf)), (ka, .inl (cC, 5, .inl kf)), (fa, .inl (cI, 15, .inl (xSf lt tn bf kf g8 p8)))] := hD
        obtain ⟨q8, eq8⟩ : ∃ z : Nat × Int32, xSp lt tn bf kf p8 = z := ⟨_, rfl⟩
        obtain ⟨t8, et8⟩ : ∃ z : Int32, xSs lt tn bf p8 = z := ⟨_, rfl⟩
        obtain ⟨f8, ef8⟩ : ∃ z : Nat → Int32, xSf lt tn bf kf g8 p8 = z := ⟨_, rfl⟩
        rw [eq8, et8, ef8] at hP hD
        have hP : va_P D vwCl [(wa, .inl (cI, 70, .inl nw)), (g0, .inr (5, [.ref ra, .ref wa, .ref ta, .int kpt, .ref ma, .int mkd, .ref pa, .int (nI tn), .int (nI q8.1), .int (q8.2), .ref ba, .ref ka, .int t8, .ref fa, .ref qa, .ref ea, .ref za, .ref ya, .int wks])), (pa, .inl (cI, 96, .inl lt)), (ba, .inl (cC, 6, .inl bf)), (ka, .inl (cC, 5, .inl kf)), (fa, .inl (cI, 15, .inl f8))] H := hP
        have hD : va_D A [(wa, .inl (cI, 70, .inl nw)), (g0, .inr (5, [.ref ra, .ref wa, .ref ta, .int kpt, .ref ma, .int mkd, .ref pa, .int (nI tn), .int (nI q8.1), .int (q8.2), .ref ba, .ref ka, .int t8, .ref fa, .ref qa, .ref ea, .ref za, .ref ya, .int wks])), (pa, .inl (cI, 96, .inl lt)), (ba, .inl (cC, 6, .inl bf)), (ka, .inl (cC, 5, .inl kf)), (fa, .inl (cI, 15, .inl f8))] := hD
        refine lv_aload_n hx hb dX5_read_93 rfl (lv_at hl 4 rfl) ?_
        refine lv_iload_n hx hb dX5_read_94 rfl (lv_at hl 2 rfl) ?_
        refine lv_iload_n hx hb dX5_read_95 rfl (lv_at hl 1 rfl) ?_
        have hPc := hP.sub (ws' := [(g0, .inr (5, [.ref ra, .ref wa, .ref ta, .int kpt, .ref ma, .int mkd, .ref pa, .int (nI tn), .int (nI q8.1), .int q8.2, .ref ba, .ref ka, .int t8, .ref fa, .ref qa, .ref ea, .ref za, .ref ya, .int wks])), (fa, .inl (cI, 15, .inl f8))]) [1, 5] rfl
        refine vp_callSi (va_Run.run (va_runV (As := [.int s1, .int l1]) (rest := []) ⟨hx, hb, hml, hown, hts⟩ (g_X5_isAsItMustBe l D cI cL cZ cC g0 ra wa ta ma pa ba ka fa qa ea za ya kpt mkd (nI tn) (nI q8.1) q8.2 t8 wks f8 s1 l1 ) (cwV 2 hts gX5_read_X5_isAsItMustBe rfl rfl rfl (by decide +kernel) ⟨Nat.le_of_ble_eq_true rfl, Nat.le_of_ble_eq_true rfl⟩) ⟨xPc_bl, va_recv hK hPc (ci := 5) (q0 := 0) rfl rfl, xPc_use hPc hK⟩ rfl rfl hl.1 rfl (lv_room (Nat.le_of_ble_eq_true rfl)) dX5_read_96 ⟨Nat.le_of_ble_eq_true rfl, Nat.le_of_ble_eq_true rfl⟩)) (fun r_11 er_11 => ?_)
        obtain rfl : (xMb t8 f8 s1 l1 : Int32) = r_11 := Eq.symm er_11
        refine lv_if_ne (tgt := 109) hx hb dX5_read_99 (by decide) (fun c_12 => ?_) (fun c_12 => ?_)
        · refine lv_iload_n hx hb dX5_read_109 rfl (lv_at hl 2 rfl) ?_
          refine xl_cut (σ := Unit) 122 (fun _ => [.int (xB0 t8), .int s1]) (fun _ ls => lv_has ls 5 [(4, .int (nI p8.1)), (3, .int l1), (2, .int s1), (1, .int (nI (i + 1))), (0, .ref g0)]) ?_ ?_
          · intro _ ls hl
            refine lv_iadd hx hb dX5_read_122 ?_
            refine lv_istore_n (lv' := [(2, .int (s1 + (xB0 t8))), (4, .int (nI p8.1)), (3, .int l1), (1, .int (nI (i + 1))), (0, .ref g0)]) hx hb dX5_read_123 rfl hl (by decide) rfl (fun ls hl => ?_)
            refine lv_iload_n hx hb dX5_read_124 rfl (lv_at hl 2 rfl) ?_
            refine xl_cut (σ := Unit) 138 (fun _ => [.int (xB3 t8), .int l1]) (fun _ ls => lv_has ls 5 [(2, .int (s1 + (xB0 t8))), (4, .int (nI p8.1)), (3, .int l1), (1, .int (nI (i + 1))), (0, .ref g0)]) ?_ ?_
            · intro _ ls hl
              refine lv_iadd hx hb dX5_read_138 ?_
              refine lv_istore_n (lv' := [(3, .int (l1 + (xB3 t8))), (2, .int (s1 + (xB0 t8))), (4, .int (nI p8.1)), (1, .int (nI (i + 1))), (0, .ref g0)]) hx hb dX5_read_139 rfl hl (by decide) rfl (fun ls hl => ?_)
              refine lv_goto (tgt := 72) hx hb dX5_read_140 (by decide) ?_
              have k5n := xJ2_s hE k5 w8 k2 eq8 et8 ef8 hq8.1 c_12
              have hm8 : ¬ xMb (xSs lt tn bf p8) (xSf lt tn bf kf (fun _ => 0) p8) s1 l1 = 0 := by rw [xMb_fa lt tn bf kf (fun _ => 0) g8 p8 s1 l1, et8, ef8]; exact c_12
              have hs8 : ∀ v, xVl lt tn bf kf v q8 (s1 + xB0 t8) (l1 + xB3 t8) → xVl lt tn bf kf (v + (c8 + 1)) (0, 1) (nw 0) (nw 3) := fun v hv => by have w9 := k4 (v + 1) (fun _ => ⟨hq8.1, hm8, by rw [eq8, et8]; exact hv⟩); rw [show v + (c8 + 1) = v + 1 + c8 by omega]; exact w9
              rw [eq8] at ha8
              have hq8b := hq8.2
              rw [eq8] at hq8b
              exact ih_72 (v8, c8 + 1, q8, t8, f8, s1 + xB0 t8, l1 + xB3 t8) _ _ _ ⟨lv_sub hl [0, 1, 3, 4] rfl, hP.sub [0, 1, 2, 3, 4, 5] rfl, hD.sub [0, 1, 2, 3, 4, 5] (by decide) rfl, hS, by (try dsimp only); exact ⟨by omega, ha8.2.2, ha8.2.1, hq8b, hs8, k5n⟩⟩
            · intro K_138
              refine lv_aload_n hx hb dX5_read_125 rfl (lv_at hl 4 rfl) ?_
              refine va_get (D := D) (ci := 5) (v := .int t8) (C := RX5) (T := TX5) (N := 19) hx hb hts hwX5 hown hK hP 1 rfl rfl 12 (by decide) (hts (.fieldLink RX5 75 "WaitOrWalkOnModel" "sort" "I") (by decide +kernel)) (fun _ h9 => h9) rfl dX5_read_126 ?_
              refine lv_iconst (v := 3) hx hb dX5_read_129 (by decide) ?_
              refine lv_icmp_ne (tgt := 137) hx hb dX5_read_130 (by decide) (fun c_13 => ?_) (fun c_13 => ?_)
              · refine lv_iconst (v := 0) hx hb dX5_read_137 (by decide) ?_
                refine xv_int (y := xB3 t8) (by rw [xB3, if_neg c_13]) ?_
                exact K_138 () _ (lv_sub hl [0, 1, 2, 3, 4] rfl)
              · refine lv_iconst (v := 1) hx hb dX5_read_133 (by decide) ?_
                refine lv_goto (tgt := 138) hx hb dX5_read_134 (by decide) ?_
                refine xv_int (y := xB3 t8) (by rw [xB3, if_pos c_13]) ?_
                exact K_138 () _ (lv_sub hl [0, 1, 2, 3, 4] rfl)
          · intro K_122
            refine lv_aload_n hx hb dX5_read_110 rfl (lv_at hl 4 rfl) ?_
            refine va_get (D := D) (ci := 5) (v := .int t8) (C := RX5) (T := TX5) (N := 19) hx hb hts hwX5 hown hK hP 1 rfl rfl 12 (by decide) (hts (.fieldLink RX5 75 "WaitOrWalkOnModel" "sort" "I") (by decide +kernel)) (fun _ h9 => h9) rfl dX5_read_111 ?_
            refine lv_if_ne (tgt := 121) hx hb dX5_read_114 (by decide) (fun c_14 => ?_) (fun c_14 => ?_)
            · refine lv_iconst (v := 0) hx hb dX5_read_121 (by decide) ?_
              refine xv_int (y := xB0 t8) (by rw [xB0, if_neg c_14]) ?_
              exact K_122 () _ (lv_sub hl [0, 1, 2, 3, 4] rfl)
            · refine lv_iconst (v := 1) hx hb dX5_read_117 (by decide) ?_
              refine lv_goto (tgt := 122) hx hb dX5_read_118 (by decide) ?_
              refine xv_int (y := xB0 t8) (by rw [xB0, if_pos c_14]) ?_
              exact K_122 () _ (lv_sub hl [0, 1, 2, 3, 4] rfl)
        · refine lv_sipush (v := -2000) hx hb dX5_read_102 (by decide) ?_
          refine lv_iload hx hb dX5_read_105 (lv_at hl 0 rfl) ?_
          refine lv_isub hx hb dX5_read_107 ?_
          have hP9 := hP.sub (ws' := [(g0, .inr (5, [.ref ra, .ref wa, .ref ta, .int kpt, .ref ma, .int mkd, .ref pa, .int (nI tn), .int (nI q8.1), .int (q8.2), .ref ba, .ref ka, .int t8, .ref fa, .ref qa, .ref ea, .ref za, .ref ya, .int wks])), (pa, .inl (cI, 96, .inl lt)), (ba, .inl (cC, 6, .inl bf)), (ka, .inl (cC, 5, .inl kf)), (fa, .inl (cI, 15, .inl f8)), (wa, .inl (cI, 70, .inl nw))]) [1, 2, 3, 4, 5, 0] rfl
          have hD9 := hD.sub (ws' := [(g0, .inr (5, [.ref ra, .ref wa, .ref ta, .int kpt, .ref ma, .int mkd, .ref pa, .int (nI tn), .int (nI q8.1), .int (q8.2), .ref ba, .ref ka, .int t8, .ref fa, .ref qa, .ref ea, .ref za, .ref ya, .int wks])), (pa, .inl (cI, 96, .inl lt)), (ba, .inl (cC, 6, .inl bf)), (ka, .inl (cC, 5, .inl kf)), (fa, .inl (cI, 15, .inl f8)), (wa, .inl (cI, 70, .inl nw))]) [1, 2, 3, 4, 5, 0] (by decide) rfl
          exact W.iret (v := (-2000) - (nI p8.1)) hx hb hr (fun t ht hW => ⟨⟨_, (), rfl, (xJ2_f hE k5 w8 k2 et8 ef8 hq8.1 c_12 hF0).1, (nI q8.1 : Int32), (q8.2 : Int32), (t8 : Int32), (f8 : Nat → Int32), (nw : Nat → Int32), xJR_n hV hR hT (xJ2_f hE k5 w8 k2 et8 ef8 hq8.1 c_12 hF0).2, by rw [ht]; exact hP9, hD9⟩, hS.F ht⟩) hS.2.2 dX5_read_108

set_option maxHeartbeats 4000000 in
set_option maxRecDepth 100000 in
theorem g_X5_roadE (l : Launch) (D : va_G) (cI cL cZ cC : ClassId) (sz : Nat) (g0 : Nat) (ra : Nat) (wa : Nat) (ta : Nat) (ma : Nat) (pa : Nat) (ba : Nat) (ka : Nat) (fa : Nat) (qa : Nat) (ea : Nat) (za : Nat) (ya : Nat) (kpt : Int32) (mkd : Int32) (at0 : Int32) (wel : Int32) (srt : Int32) (wks : Int32) (tn : Nat) (lt : Nat → Int32) (bf : Nat → Int32) (kf : Nat → Int32) (ff : Nat → Int32) (st : Nat) (ln : Nat) (nw : Nat → Int32) (T : xT) (htn : tn ≤ 96) (hV : xVd nw st ln) (hB : xByt lt tn) (hR : xRel T nw) (hT : T.1 = st ∧ T.2.1 = ln) (hbf : bf = xBF) (hkf : kf = xKF) : Met l yX5_road wsX5_road ({ frames := 4, cells := 0, slots := 0, locals := 89 } : Room) (wPc D [.ref g0] [(g0, .inr (5, [.ref ra, .ref wa, .ref ta, .int kpt, .ref ma, .int mkd, .ref pa, .int (nI tn), .int at0, .int wel, .ref ba, .ref ka, .int srt, .ref fa, .ref qa, .ref ea, .ref za, .ref ya, .int wks])), (pa, .inl (cI, 96, .inl lt)), (ba, .inl (cC, 6, .inl bf)), (ka, .inl (cC, 5, .inl kf)), (fa, .inl (cI, 15, .inl ff)), (wa, .inl (cI, 70, .inl nw))] (xTy cI cL cZ cC) sz) (va_Qi (fun (r : Int32) (_ : Unit) => r = (xRO lt tn T).2) (fun (_ : Unit) t => ∃ a9 : Int32, ∃ w9 : Int32, ∃ s9 : Int32, ∃ ff9 : Nat → Int32, ∃ nw9 : Nat → Int32, (xJR lt tn T nw9) ∧ va_P D vwCl [(g0, .inr (5, [.ref ra, .ref wa, .ref ta, .int kpt, .ref ma, .int mkd, .ref pa, .int 0, .int a9, .int w9, .ref ba, .ref ka, .int s9, .ref fa, .ref qa, .ref ea, .ref za, .ref ya, .int wks])), (pa, .inl (cI, 96, .inl lt)), (ba, .inl (cC, 6, .inl bf)), (ka, .inl (cC, 5, .inl kf)), (fa, .inl (cI, 15, .inl ff9)), (wa, .inl (cI, 70, .inl nw9))] t.heap ∧ va_D (va_A [(g0, .inr (5, [.ref ra, .ref wa, .ref ta, .int kpt, .ref ma, .int mkd, .ref pa, .int (nI tn), .int at0, .int wel, .ref ba, .ref ka, .int srt, .ref fa, .ref qa, .ref ea, .ref za, .ref ya, .int wks])), (pa, .inl (cI, 96, .inl lt)), (ba, .inl (cC, 6, .inl bf)), (ka, .inl (cC, 5, .inl kf)), (fa, .inl (cI, 15, .inl ff)), (wa, .inl (cI, 70, .inl nw))] sz) [(g0, .inr (5, [.ref ra, .ref wa, .ref ta, .int kpt, .ref ma, .int mkd, .ref pa, .int 0, .int a9, .int w9, .ref ba, .ref ka, .int s9, .ref fa, .ref qa, .ref ea, .ref za, .ref ya, .int wks])), (pa, .inl (cI, 96, .inl lt)), (ba, .inl (cC, 6, .inl bf)), (ka, .inl (cC, 5, .inl kf)), (fa, .inl (cI, 15, .inl ff9)), (wa, .inl (cI, 70, .inl nw9))]) (va_A [(g0, .inr (5, [.ref ra, .ref wa, .ref ta, .int kpt, .ref ma, .int mkd, .ref pa, .int (nI tn), .int at0, .int wel, .ref ba, .ref ka, .int srt, .ref fa, .ref qa, .ref ea, .ref za, .ref ya, .int wks])), (pa, .inl (cI, 96, .inl lt)), (ba, .inl (cC, 6, .inl bf)), (ka, .inl (cC, 5, .inl kf)), (fa, .inl (cI, 15, .inl ff)), (wa, .inl (cI, 70, .inl nw))] sz)) 0 0 (va_A [(g0, .inr (5, [.ref ra, .ref wa, .ref ta, .int kpt, .ref ma, .int mkd, .ref pa, .int (nI tn), .int at0, .int wel, .ref ba, .ref ka, .int srt, .ref fa, .ref qa, .ref ea, .ref za, .ref ya, .int wks])), (pa, .inl (cI, 96, .inl lt)), (ba, .inl (cC, 6, .inl bf)), (ka, .inl (cC, 5, .inl kf)), (fa, .inl (cI, 15, .inl ff)), (wa, .inl (cI, 70, .inl nw))] sz) := by
  refine Met.ofW (cc := cX5_road) (maxL := 2) (ret := (some .int)) (by decide) rfl ?_
  intro p e s m args below meth c s₁ B hml hv
  obtain ⟨rfl, hsz, hP, hK, hD0⟩ := hv
  have hx := B.exec
  have hb := B.bytes
  have hr := B.returns
  have hts := atoms_spec (ws := wsX5_road) B.pre
  have hown : s.vm.findClass RX5 = some m.cls := findClass_of_methodNamed B.named
  have hlocks := B.notSynchronized
  have hwX5 : ∀ w ∈ u_ws RX5 TX5 19, w ∈ wsX5_road := fun _ h => List.mem_cons_of_mem _ (List.mem_append_right _ h)
  subst hsz
  have hD := hD0.self (sz := s.heap.size)
  generalize hAe : va_A [(g0, .inr (5, [.ref ra, .ref wa, .ref ta, .int kpt, .ref ma, .int mkd, .ref pa, .int (nI tn), .int at0, .int wel, .ref ba, .ref ka, .int srt, .ref fa, .ref qa, .ref ea, .ref za, .ref ya, .int wks])), (pa, .inl (cI, 96, .inl lt)), (ba, .inl (cC, 6, .inl bf)), (ka, .inl (cC, 5, .inl kf)), (fa, .inl (cI, 15, .inl ff)), (wa, .inl (cI, 70, .inl nw))] s.heap.size = A at hD ⊢
  have hA : ∀ q : Nat, s.heap.size ≤ q → A q := fun q h => by rw [← hAe]; exact Or.inr h
  have hS : va_S A s.heap s.heap [] := va_S.rf
  have hP : va_P D vwCl [(g0, .inr (5, [.ref ra, .ref wa, .ref ta, .int kpt, .ref ma, .int mkd, .ref pa, .int (nI tn), .int at0, .int wel, .ref ba, .ref ka, .int srt, .ref fa, .ref qa, .ref ea, .ref za, .ref ya, .int wks])), (pa, .inl (cI, 96, .inl lt)), (ba, .inl (cC, 6, .inl bf)), (ka, .inl (cC, 5, .inl kf)), (fa, .inl (cI, 15, .inl ff)), (wa, .inl (cI, 70, .inl nw))] s.heap := hP
  have hl := lv_entry ([.ref g0]) (n := 2) (Nat.le_of_ble_eq_true rfl)
  rw [lg_entry_eq]
  generalize (lg_sl ([.ref g0]) ++ List.replicate (2 - (lg_sl ([.ref g0])).length) Slot.unset).toArray = ls at hl ⊢
  have hl : lv_has ls 2 [(0, .ref g0)] := hl
  refine lv_aload_n hx hb dX5_road_0 rfl (lv_at hl 0 rfl) ?_
  have hPc := hP.sub (ws' := [(g0, .inr (5, [.ref ra, .ref wa, .ref ta, .int kpt, .ref ma, .int mkd, .ref pa, .int (nI tn), .int at0, .int wel, .ref ba, .ref ka, .int srt, .ref fa, .ref qa, .ref ea, .ref za, .ref ya, .int wks])), (pa, .inl (cI, 96, .inl lt)), (ba, .inl (cC, 6, .inl bf)), (ka, .inl (cC, 5, .inl kf)), (fa, .inl (cI, 15, .inl ff)), (wa, .inl (cI, 70, .inl nw))]) [0, 1, 2, 3, 4, 5] rfl
  have hDc := hD.sub (ws' := [(g0, .inr (5, [.ref ra, .ref wa, .ref ta, .int kpt, .ref ma, .int mkd, .ref pa, .int (nI tn), .int at0, .int wel, .ref ba, .ref ka, .int srt, .ref fa, .ref qa, .ref ea, .ref za, .ref ya, .int wks])), (pa, .inl (cI, 96, .inl lt)), (ba, .inl (cC, 6, .inl bf)), (ka, .inl (cC, 5, .inl kf)), (fa, .inl (cI, 15, .inl ff)), (wa, .inl (cI, 70, .inl nw))]) [0, 1, 2, 3, 4, 5] (by decide) rfl
  have hFc := va_free (wc := [(g0, .inr (5, [.ref ra, .ref wa, .ref ta, .int kpt, .ref ma, .int mkd, .ref pa, .int (nI tn), .int at0, .int wel, .ref ba, .ref ka, .int srt, .ref fa, .ref qa, .ref ea, .ref za, .ref ya, .int wks])), (pa, .inl (cI, 96, .inl lt)), (ba, .inl (cC, 6, .inl bf)), (ka, .inl (cC, 5, .inl kf)), (fa, .inl (cI, 15, .inl ff)), (wa, .inl (cI, 70, .inl nw))]) hD hS hA [0, 1, 2, 3, 4, 5] rfl
  refine va_calli (va_runV (As := []) (rest := []) ⟨hx, hb, hml, hown, hts⟩ (g_X5_readE l D cI cL cZ cC _ g0 ra wa ta ma pa ba ka fa qa ea za ya kpt mkd at0 wel srt wks tn lt bf kf ff st ln nw T (htn) (hV) (hB) (hR) (hT) (hbf) (hkf)) (cwV 0 hts gX5_road_X5_read rfl rfl rfl (by decide +kernel) ⟨Nat.le_of_ble_eq_true rfl, Nat.le_of_ble_eq_true rfl⟩) ⟨wPc_bl, va_recv hK hPc (ci := 5) (q0 := 0) rfl rfl, wPc_use hPc hK hDc⟩ rfl rfl hl.1 rfl (lv_room (Nat.le_of_ble_eq_true rfl)) dX5_road_1 ⟨Nat.le_of_ble_eq_true rfl, Nat.le_of_ble_eq_true rfl⟩) hS (fun q _ h => hFc q h) hFc (fun r_1 u_1 t H1 locs ht hvm hw hB hz1 hk1 hS => ?_)
  obtain ⟨a9_1, w9_1, s9_1, ff9_1, nw9_1, hx0_1, hP1, hD1⟩ := hB
  rw [ht] at hP1
  obtain ⟨hP, hD⟩ := va_join (wr := []) (w1 := [(g0, .inr (5, [.ref ra, .ref wa, .ref ta, .int kpt, .ref ma, .int mkd, .ref pa, .int (nI tn), .int a9_1, .int w9_1, .ref ba, .ref ka, .int s9_1, .ref fa, .ref qa, .ref ea, .ref za, .ref ya, .int wks])), (pa, .inl (cI, 96, .inl lt)), (ba, .inl (cC, 6, .inl bf)), (ka, .inl (cC, 5, .inl kf)), (fa, .inl (cI, 15, .inl ff9_1)), (wa, .inl (cI, 70, .inl nw9_1))]) hP hD [0, 1, 2, 3, 4, 5] [] rfl rfl (by decide) (by decide) hk1 hFc hP1 hD1
  generalize H1 = H at hP hS ⊢
  have hP : va_P D vwCl [(g0, .inr (5, [.ref ra, .ref wa, .ref ta, .int kpt, .ref ma, .int mkd, .ref pa, .int (nI tn), .int a9_1, .int w9_1, .ref ba, .ref ka, .int s9_1, .ref fa, .ref qa, .ref ea, .ref za, .ref ya, .int wks])), (pa, .inl (cI, 96, .inl lt)), (ba, .inl (cC, 6, .inl bf)), (ka, .inl (cC, 5, .inl kf)), (fa, .inl (cI, 15, .inl ff9_1)), (wa, .inl (cI, 70, .inl nw9_1))] H := hP
  have hD : va_D A [(g0, .inr (5, [.ref ra, .ref wa, .ref ta, .int kpt, .ref ma, .int mkd, .ref pa, .int (nI tn), .int a9_1, .int w9_1, .ref ba, .ref ka, .int s9_1, .ref fa, .ref qa, .ref ea, .ref za, .ref ya, .int wks])), (pa, .inl (cI, 96, .inl lt)), (ba, .inl (cC, 6, .inl bf)), (ka, .inl (cC, 5, .inl kf)), (fa, .inl (cI, 15, .inl ff9_1)), (wa, .inl (cI, 70, .inl nw9_1))] := hD
  obtain rfl : ((xRO lt tn T).2 : Int32) = r_1 := Eq.symm hw
  refine lv_istore_n (lv' := [(1, .int ((xRO lt tn T).2)), (0, .ref g0)]) hx hb dX5_road_4 rfl hl (by decide) rfl (fun ls hl => ?_)
  refine lv_aload_n hx hb dX5_road_5 rfl (lv_at hl 1 rfl) ?_
  refine lv_iconst (v := 0) hx hb dX5_road_6 (by decide) ?_
  refine va_put (D := D) (ci := 5) (v := .int 0) (ty := .int) (C := RX5) (T := TX5) (N := 19) hx hb hts hwX5 tyX5 tyX5_ok nmX5 hown hK hP hD hS 0 rfl rfl 7 (by decide) (hts (.fieldLink RX5 57 "WaitOrWalkOnModel" "taped" "I") (by decide +kernel)) (fun _ h9 => h9) rfl (by decide +kernel) (by decide +kernel) rfl (Nat.le_of_ble_eq_true rfl) dX5_road_7 (fun H locs hP hD hS => ?_)
  have hP : va_P D vwCl [(g0, .inr (5, [.ref ra, .ref wa, .ref ta, .int kpt, .ref ma, .int mkd, .ref pa, .int 0, .int a9_1, .int w9_1, .ref ba, .ref ka, .int s9_1, .ref fa, .ref qa, .ref ea, .ref za, .ref ya, .int wks])), (pa, .inl (cI, 96, .inl lt)), (ba, .inl (cC, 6, .inl bf)), (ka, .inl (cC, 5, .inl kf)), (fa, .inl (cI, 15, .inl ff9_1)), (wa, .inl (cI, 70, .inl nw9_1))] H := hP
  have hD : va_D A [(g0, .inr (5, [.ref ra, .ref wa, .ref ta, .int kpt, .ref ma, .int mkd, .ref pa, .int 0, .int a9_1, .int w9_1, .ref ba, .ref ka, .int s9_1, .ref fa, .ref qa, .ref ea, .ref za, .ref ya, .int wks])), (pa, .inl (cI, 96, .inl lt)), (ba, .inl (cC, 6, .inl bf)), (ka, .inl (cC, 5, .inl kf)), (fa, .inl (cI, 15, .inl ff9_1)), (wa, .inl (cI, 70, .inl nw9_1))] := hD
  refine lv_iload_n hx hb dX5_road_10 rfl (lv_at hl 0 rfl) ?_
  have hP9 := hP.sub (ws' := [(g0, .inr (5, [.ref ra, .ref wa, .ref ta, .int kpt, .ref ma, .int mkd, .ref pa, .int 0, .int a9_1, .int w9_1, .ref ba, .ref ka, .int s9_1, .ref fa, .ref qa, .ref ea, .ref za, .ref ya, .int wks])), (pa, .inl (cI, 96, .inl lt)), (ba, .inl (cC, 6, .inl bf)), (ka, .inl (cC, 5, .inl kf)), (fa, .inl (cI, 15, .inl ff9_1)), (wa, .inl (cI, 70, .inl nw9_1))]) [0, 1, 2, 3, 4, 5] rfl
  have hD9 := hD.sub (ws' := [(g0, .inr (5, [.ref ra, .ref wa, .ref ta, .int kpt, .ref ma, .int mkd, .ref pa, .int 0, .int a9_1, .int w9_1, .ref ba, .ref ka, .int s9_1, .ref fa, .ref qa, .ref ea, .ref za, .ref ya, .int wks])), (pa, .inl (cI, 96, .inl lt)), (ba, .inl (cC, 6, .inl bf)), (ka, .inl (cC, 5, .inl kf)), (fa, .inl (cI, 15, .inl ff9_1)), (wa, .inl (cI, 70, .inl nw9_1))]) [0, 1, 2, 3, 4, 5] (by decide) rfl
  exact W.iret (v := (xRO lt tn T).2) hx hb hr (fun t ht hW => ⟨⟨_, (), rfl, rfl, (a9_1 : Int32), (w9_1 : Int32), (s9_1 : Int32), (ff9_1 : Nat → Int32), (nw9_1 : Nat → Int32), hx0_1, by rw [ht]; exact hP9, hD9⟩, hS.F ht⟩) hS.2.2 dX5_road_11
