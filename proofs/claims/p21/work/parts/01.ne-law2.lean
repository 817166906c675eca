theorem bne_law2_0 : decs cL_law [(682, .invokevirtual 79, 3), (685, .pop, 1), (686, .goto 291, 3), (689, .aload_n 1, 1), (690, .aload_n 0, 1), (691, .iload_n 3, 1), (692, .iconst 1, 1), (693, .iadd, 1), (694, .iaload, 1), (695, .invokevirtual 80, 3), (698, .pop, 1), (699, .aload_n 2, 1), (700, .aload_n 0, 1), (701, .iload_n 3, 1), (702, .iconst 1, 1), (703, .iadd, 1), (704, .iaload, 1), (705, .invokevirtual 83, 3), (708, .pop, 1), (709, .goto 268, 3), (712, .aload_n 1, 1), (713, .aload_n 0, 1), (714, .iload_n 3, 1), (715, .iconst 1, 1)] = true := by decide +kernel
theorem dL_law_682 : decode cL_law 682 = .ok (.invokevirtual 79, 3) := decs_at bne_law2_0 0 (x := (682, .invokevirtual 79, 3)) rfl
theorem dL_law_685 : decode cL_law 685 = .ok (.pop, 1) := decs_at bne_law2_0 1 (x := (685, .pop, 1)) rfl
theorem dL_law_686 : decode cL_law 686 = .ok (.goto 291, 3) := decs_at bne_law2_0 2 (x := (686, .goto 291, 3)) rfl
theorem dL_law_689 : decode cL_law 689 = .ok (.aload_n 1, 1) := decs_at bne_law2_0 3 (x := (689, .aload_n 1, 1)) rfl
theorem dL_law_690 : decode cL_law 690 = .ok (.aload_n 0, 1) := decs_at bne_law2_0 4 (x := (690, .aload_n 0, 1)) rfl
theorem dL_law_691 : decode cL_law 691 = .ok (.iload_n 3, 1) := decs_at bne_law2_0 5 (x := (691, .iload_n 3, 1)) rfl
theorem dL_law_692 : decode cL_law 692 = .ok (.iconst 1, 1) := decs_at bne_law2_0 6 (x := (692, .iconst 1, 1)) rfl
theorem dL_law_693 : decode cL_law 693 = .ok (.iadd, 1) := decs_at bne_law2_0 7 (x := (693, .iadd, 1)) rfl
theorem dL_law_694 : decode cL_law 694 = .ok (.iaload, 1) := decs_at bne_law2_0 8 (x := (694, .iaload, 1)) rfl
theorem dL_law_695 : decode cL_law 695 = .ok (.invokevirtual 80, 3) := decs_at bne_law2_0 9 (x := (695, .invokevirtual 80, 3)) rfl
theorem dL_law_698 : decode cL_law 698 = .ok (.pop, 1) := decs_at bne_law2_0 10 (x := (698, .pop, 1)) rfl
theorem dL_law_699 : decode cL_law 699 = .ok (.aload_n 2, 1) := decs_at bne_law2_0 11 (x := (699, .aload_n 2, 1)) rfl
theorem dL_law_700 : decode cL_law 700 = .ok (.aload_n 0, 1) := decs_at bne_law2_0 12 (x := (700, .aload_n 0, 1)) rfl
theorem dL_law_701 : decode cL_law 701 = .ok (.iload_n 3, 1) := decs_at bne_law2_0 13 (x := (701, .iload_n 3, 1)) rfl
theorem dL_law_702 : decode cL_law 702 = .ok (.iconst 1, 1) := decs_at bne_law2_0 14 (x := (702, .iconst 1, 1)) rfl
theorem dL_law_703 : decode cL_law 703 = .ok (.iadd, 1) := decs_at bne_law2_0 15 (x := (703, .iadd, 1)) rfl
theorem dL_law_704 : decode cL_law 704 = .ok (.iaload, 1) := decs_at bne_law2_0 16 (x := (704, .iaload, 1)) rfl
theorem dL_law_705 : decode cL_law 705 = .ok (.invokevirtual 83, 3) := decs_at bne_law2_0 17 (x := (705, .invokevirtual 83, 3)) rfl
theorem dL_law_708 : decode cL_law 708 = .ok (.pop, 1) := decs_at bne_law2_0 18 (x := (708, .pop, 1)) rfl
theorem dL_law_709 : decode cL_law 709 = .ok (.goto 268, 3) := decs_at bne_law2_0 19 (x := (709, .goto 268, 3)) rfl
theorem dL_law_712 : decode cL_law 712 = .ok (.aload_n 1, 1) := decs_at bne_law2_0 20 (x := (712, .aload_n 1, 1)) rfl
theorem dL_law_713 : decode cL_law 713 = .ok (.aload_n 0, 1) := decs_at bne_law2_0 21 (x := (713, .aload_n 0, 1)) rfl
theorem dL_law_714 : decode cL_law 714 = .ok (.iload_n 3, 1) := decs_at bne_law2_0 22 (x := (714, .iload_n 3, 1)) rfl
theorem dL_law_715 : decode cL_law 715 = .ok (.iconst 1, 1) := decs_at bne_law2_0 23 (x := (715, .iconst 1, 1)) rfl
theorem bne_law2_1 : decs cL_law [(716, .iadd, 1), (717, .iaload, 1), (718, .aload_n 0, 1), (719, .iload_n 3, 1), (720, .iconst 2, 1), (721, .iadd, 1), (722, .iaload, 1), (723, .invokevirtual 84, 3), (726, .pop, 1), (727, .aload_n 2, 1), (728, .aload_n 0, 1), (729, .iload_n 3, 1), (730, .iconst 1, 1), (731, .iadd, 1), (732, .iaload, 1), (733, .aload_n 0, 1), (734, .iload_n 3, 1), (735, .iconst 2, 1), (736, .iadd, 1), (737, .iaload, 1), (738, .invokevirtual 87, 3), (741, .pop, 1), (742, .goto 235, 3), (745, .aload_n 1, 1)] = true := by decide +kernel
theorem dL_law_716 : decode cL_law 716 = .ok (.iadd, 1) := decs_at bne_law2_1 0 (x := (716, .iadd, 1)) rfl
theorem dL_law_717 : decode cL_law 717 = .ok (.iaload, 1) := decs_at bne_law2_1 1 (x := (717, .iaload, 1)) rfl
theorem dL_law_718 : decode cL_law 718 = .ok (.aload_n 0, 1) := decs_at bne_law2_1 2 (x := (718, .aload_n 0, 1)) rfl
theorem dL_law_719 : decode cL_law 719 = .ok (.iload_n 3, 1) := decs_at bne_law2_1 3 (x := (719, .iload_n 3, 1)) rfl
theorem dL_law_720 : decode cL_law 720 = .ok (.iconst 2, 1) := decs_at bne_law2_1 4 (x := (720, .iconst 2, 1)) rfl
theorem dL_law_721 : decode cL_law 721 = .ok (.iadd, 1) := decs_at bne_law2_1 5 (x := (721, .iadd, 1)) rfl
theorem dL_law_722 : decode cL_law 722 = .ok (.iaload, 1) := decs_at bne_law2_1 6 (x := (722, .iaload, 1)) rfl
theorem dL_law_723 : decode cL_law 723 = .ok (.invokevirtual 84, 3) := decs_at bne_law2_1 7 (x := (723, .invokevirtual 84, 3)) rfl
theorem dL_law_726 : decode cL_law 726 = .ok (.pop, 1) := decs_at bne_law2_1 8 (x := (726, .pop, 1)) rfl
theorem dL_law_727 : decode cL_law 727 = .ok (.aload_n 2, 1) := decs_at bne_law2_1 9 (x := (727, .aload_n 2, 1)) rfl
theorem dL_law_728 : decode cL_law 728 = .ok (.aload_n 0, 1) := decs_at bne_law2_1 10 (x := (728, .aload_n 0, 1)) rfl
theorem dL_law_729 : decode cL_law 729 = .ok (.iload_n 3, 1) := decs_at bne_law2_1 11 (x := (729, .iload_n 3, 1)) rfl
theorem dL_law_730 : decode cL_law 730 = .ok (.iconst 1, 1) := decs_at bne_law2_1 12 (x := (730, .iconst 1, 1)) rfl
theorem dL_law_731 : decode cL_law 731 = .ok (.iadd, 1) := decs_at bne_law2_1 13 (x := (731, .iadd, 1)) rfl
theorem dL_law_732 : decode cL_law 732 = .ok (.iaload, 1) := decs_at bne_law2_1 14 (x := (732, .iaload, 1)) rfl
theorem dL_law_733 : decode cL_law 733 = .ok (.aload_n 0, 1) := decs_at bne_law2_1 15 (x := (733, .aload_n 0, 1)) rfl
theorem dL_law_734 : decode cL_law 734 = .ok (.iload_n 3, 1) := decs_at bne_law2_1 16 (x := (734, .iload_n 3, 1)) rfl
theorem dL_law_735 : decode cL_law 735 = .ok (.iconst 2, 1) := decs_at bne_law2_1 17 (x := (735, .iconst 2, 1)) rfl
theorem dL_law_736 : decode cL_law 736 = .ok (.iadd, 1) := decs_at bne_law2_1 18 (x := (736, .iadd, 1)) rfl
theorem dL_law_737 : decode cL_law 737 = .ok (.iaload, 1) := decs_at bne_law2_1 19 (x := (737, .iaload, 1)) rfl
theorem dL_law_738 : decode cL_law 738 = .ok (.invokevirtual 87, 3) := decs_at bne_law2_1 20 (x := (738, .invokevirtual 87, 3)) rfl
theorem dL_law_741 : decode cL_law 741 = .ok (.pop, 1) := decs_at bne_law2_1 21 (x := (741, .pop, 1)) rfl
theorem dL_law_742 : decode cL_law 742 = .ok (.goto 235, 3) := decs_at bne_law2_1 22 (x := (742, .goto 235, 3)) rfl
theorem dL_law_745 : decode cL_law 745 = .ok (.aload_n 1, 1) := decs_at bne_law2_1 23 (x := (745, .aload_n 1, 1)) rfl
theorem bne_law2_2 : decs cL_law [(746, .invokevirtual 88, 3), (749, .pop, 1), (750, .aload_n 2, 1), (751, .invokevirtual 92, 3), (754, .pop, 1), (755, .goto 222, 3), (758, .aload_n 1, 1), (759, .aload_n 0, 1), (760, .iload_n 3, 1), (761, .iconst 1, 1), (762, .iadd, 1), (763, .iaload, 1), (764, .invokevirtual 93, 3), (767, .pop, 1), (768, .aload_n 2, 1), (769, .aload_n 0, 1), (770, .iload_n 3, 1), (771, .iconst 1, 1), (772, .iadd, 1), (773, .iaload, 1), (774, .invokevirtual 96, 3), (777, .pop, 1), (778, .goto 199, 3), (781, .aload_n 1, 1)] = true := by decide +kernel
theorem dL_law_746 : decode cL_law 746 = .ok (.invokevirtual 88, 3) := decs_at bne_law2_2 0 (x := (746, .invokevirtual 88, 3)) rfl
theorem dL_law_749 : decode cL_law 749 = .ok (.pop, 1) := decs_at bne_law2_2 1 (x := (749, .pop, 1)) rfl
theorem dL_law_750 : decode cL_law 750 = .ok (.aload_n 2, 1) := decs_at bne_law2_2 2 (x := (750, .aload_n 2, 1)) rfl
theorem dL_law_751 : decode cL_law 751 = .ok (.invokevirtual 92, 3) := decs_at bne_law2_2 3 (x := (751, .invokevirtual 92, 3)) rfl
theorem dL_law_754 : decode cL_law 754 = .ok (.pop, 1) := decs_at bne_law2_2 4 (x := (754, .pop, 1)) rfl
theorem dL_law_755 : decode cL_law 755 = .ok (.goto 222, 3) := decs_at bne_law2_2 5 (x := (755, .goto 222, 3)) rfl
theorem dL_law_758 : decode cL_law 758 = .ok (.aload_n 1, 1) := decs_at bne_law2_2 6 (x := (758, .aload_n 1, 1)) rfl
theorem dL_law_759 : decode cL_law 759 = .ok (.aload_n 0, 1) := decs_at bne_law2_2 7 (x := (759, .aload_n 0, 1)) rfl
theorem dL_law_760 : decode cL_law 760 = .ok (.iload_n 3, 1) := decs_at bne_law2_2 8 (x := (760, .iload_n 3, 1)) rfl
theorem dL_law_761 : decode cL_law 761 = .ok (.iconst 1, 1) := decs_at bne_law2_2 9 (x := (761, .iconst 1, 1)) rfl
theorem dL_law_762 : decode cL_law 762 = .ok (.iadd, 1) := decs_at bne_law2_2 10 (x := (762, .iadd, 1)) rfl
theorem dL_law_763 : decode cL_law 763 = .ok (.iaload, 1) := decs_at bne_law2_2 11 (x := (763, .iaload, 1)) rfl
theorem dL_law_764 : decode cL_law 764 = .ok (.invokevirtual 93, 3) := decs_at bne_law2_2 12 (x := (764, .invokevirtual 93, 3)) rfl
theorem dL_law_767 : decode cL_law 767 = .ok (.pop, 1) := decs_at bne_law2_2 13 (x := (767, .pop, 1)) rfl
theorem dL_law_768 : decode cL_law 768 = .ok (.aload_n 2, 1) := decs_at bne_law2_2 14 (x := (768, .aload_n 2, 1)) rfl
theorem dL_law_769 : decode cL_law 769 = .ok (.aload_n 0, 1) := decs_at bne_law2_2 15 (x := (769, .aload_n 0, 1)) rfl
theorem dL_law_770 : decode cL_law 770 = .ok (.iload_n 3, 1) := decs_at bne_law2_2 16 (x := (770, .iload_n 3, 1)) rfl
theorem dL_law_771 : decode cL_law 771 = .ok (.iconst 1, 1) := decs_at bne_law2_2 17 (x := (771, .iconst 1, 1)) rfl
theorem dL_law_772 : decode cL_law 772 = .ok (.iadd, 1) := decs_at bne_law2_2 18 (x := (772, .iadd, 1)) rfl
theorem dL_law_773 : decode cL_law 773 = .ok (.iaload, 1) := decs_at bne_law2_2 19 (x := (773, .iaload, 1)) rfl
theorem dL_law_774 : decode cL_law 774 = .ok (.invokevirtual 96, 3) := decs_at bne_law2_2 20 (x := (774, .invokevirtual 96, 3)) rfl
theorem dL_law_777 : decode cL_law 777 = .ok (.pop, 1) := decs_at bne_law2_2 21 (x := (777, .pop, 1)) rfl
theorem dL_law_778 : decode cL_law 778 = .ok (.goto 199, 3) := decs_at bne_law2_2 22 (x := (778, .goto 199, 3)) rfl
theorem dL_law_781 : decode cL_law 781 = .ok (.aload_n 1, 1) := decs_at bne_law2_2 23 (x := (781, .aload_n 1, 1)) rfl
theorem bne_law2_3 : decs cL_law [(782, .aload_n 0, 1), (783, .iload_n 3, 1), (784, .iconst 1, 1), (785, .iadd, 1), (786, .iaload, 1), (787, .aload_n 0, 1), (788, .iload_n 3, 1), (789, .iconst 2, 1), (790, .iadd, 1), (791, .iaload, 1), (792, .invokevirtual 97, 3), (795, .aload_n 2, 1), (796, .aload_n 0, 1), (797, .iload_n 3, 1), (798, .iconst 1, 1), (799, .iadd, 1), (800, .iaload, 1), (801, .aload_n 0, 1), (802, .iload_n 3, 1), (803, .iconst 2, 1), (804, .iadd, 1), (805, .iaload, 1), (806, .invokevirtual 100, 3), (809, .lcmp, 1)] = true := by decide +kernel
theorem dL_law_782 : decode cL_law 782 = .ok (.aload_n 0, 1) := decs_at bne_law2_3 0 (x := (782, .aload_n 0, 1)) rfl
theorem dL_law_783 : decode cL_law 783 = .ok (.iload_n 3, 1) := decs_at bne_law2_3 1 (x := (783, .iload_n 3, 1)) rfl
theorem dL_law_784 : decode cL_law 784 = .ok (.iconst 1, 1) := decs_at bne_law2_3 2 (x := (784, .iconst 1, 1)) rfl
theorem dL_law_785 : decode cL_law 785 = .ok (.iadd, 1) := decs_at bne_law2_3 3 (x := (785, .iadd, 1)) rfl
theorem dL_law_786 : decode cL_law 786 = .ok (.iaload, 1) := decs_at bne_law2_3 4 (x := (786, .iaload, 1)) rfl
theorem dL_law_787 : decode cL_law 787 = .ok (.aload_n 0, 1) := decs_at bne_law2_3 5 (x := (787, .aload_n 0, 1)) rfl
theorem dL_law_788 : decode cL_law 788 = .ok (.iload_n 3, 1) := decs_at bne_law2_3 6 (x := (788, .iload_n 3, 1)) rfl
theorem dL_law_789 : decode cL_law 789 = .ok (.iconst 2, 1) := decs_at bne_law2_3 7 (x := (789, .iconst 2, 1)) rfl
theorem dL_law_790 : decode cL_law 790 = .ok (.iadd, 1) := decs_at bne_law2_3 8 (x := (790, .iadd, 1)) rfl
theorem dL_law_791 : decode cL_law 791 = .ok (.iaload, 1) := decs_at bne_law2_3 9 (x := (791, .iaload, 1)) rfl
theorem dL_law_792 : decode cL_law 792 = .ok (.invokevirtual 97, 3) := decs_at bne_law2_3 10 (x := (792, .invokevirtual 97, 3)) rfl
theorem dL_law_795 : decode cL_law 795 = .ok (.aload_n 2, 1) := decs_at bne_law2_3 11 (x := (795, .aload_n 2, 1)) rfl
theorem dL_law_796 : decode cL_law 796 = .ok (.aload_n 0, 1) := decs_at bne_law2_3 12 (x := (796, .aload_n 0, 1)) rfl
theorem dL_law_797 : decode cL_law 797 = .ok (.iload_n 3, 1) := decs_at bne_law2_3 13 (x := (797, .iload_n 3, 1)) rfl
theorem dL_law_798 : decode cL_law 798 = .ok (.iconst 1, 1) := decs_at bne_law2_3 14 (x := (798, .iconst 1, 1)) rfl
theorem dL_law_799 : decode cL_law 799 = .ok (.iadd, 1) := decs_at bne_law2_3 15 (x := (799, .iadd, 1)) rfl
theorem dL_law_800 : decode cL_law 800 = .ok (.iaload, 1) := decs_at bne_law2_3 16 (x := (800, .iaload, 1)) rfl
theorem dL_law_801 : decode cL_law 801 = .ok (.aload_n 0, 1) := decs_at bne_law2_3 17 (x := (801, .aload_n 0, 1)) rfl
theorem dL_law_802 : decode cL_law 802 = .ok (.iload_n 3, 1) := decs_at bne_law2_3 18 (x := (802, .iload_n 3, 1)) rfl
theorem dL_law_803 : decode cL_law 803 = .ok (.iconst 2, 1) := decs_at bne_law2_3 19 (x := (803, .iconst 2, 1)) rfl
theorem dL_law_804 : decode cL_law 804 = .ok (.iadd, 1) := decs_at bne_law2_3 20 (x := (804, .iadd, 1)) rfl
theorem dL_law_805 : decode cL_law 805 = .ok (.iaload, 1) := decs_at bne_law2_3 21 (x := (805, .iaload, 1)) rfl
theorem dL_law_806 : decode cL_law 806 = .ok (.invokevirtual 100, 3) := decs_at bne_law2_3 22 (x := (806, .invokevirtual 100, 3)) rfl
theorem dL_law_809 : decode cL_law 809 = .ok (.lcmp, 1) := decs_at bne_law2_3 23 (x := (809, .lcmp, 1)) rfl
theorem bne_law2_4 : decs cL_law [(810, .ifCond .eq 167, 3), (813, .iconst 0, 1), (814, .ireturn, 1), (815, .aload_n 1, 1), (816, .aload_n 0, 1), (817, .iload_n 3, 1), (818, .iconst 1, 1), (819, .iadd, 1), (820, .iaload, 1), (821, .aload_n 0, 1), (822, .iload_n 3, 1), (823, .iconst 2, 1), (824, .iadd, 1), (825, .iaload, 1), (826, .i2l, 1), (827, .bipush 32, 2), (829, .lshl, 1), (830, .aload_n 0, 1), (831, .iload_n 3, 1), (832, .iconst 3, 1), (833, .iadd, 1), (834, .iaload, 1), (835, .i2l, 1), (836, .ldc2_w 45, 3)] = true := by decide +kernel
theorem dL_law_810 : decode cL_law 810 = .ok (.ifCond .eq 167, 3) := decs_at bne_law2_4 0 (x := (810, .ifCond .eq 167, 3)) rfl
theorem dL_law_813 : decode cL_law 813 = .ok (.iconst 0, 1) := decs_at bne_law2_4 1 (x := (813, .iconst 0, 1)) rfl
theorem dL_law_814 : decode cL_law 814 = .ok (.ireturn, 1) := decs_at bne_law2_4 2 (x := (814, .ireturn, 1)) rfl
theorem dL_law_815 : decode cL_law 815 = .ok (.aload_n 1, 1) := decs_at bne_law2_4 3 (x := (815, .aload_n 1, 1)) rfl
theorem dL_law_816 : decode cL_law 816 = .ok (.aload_n 0, 1) := decs_at bne_law2_4 4 (x := (816, .aload_n 0, 1)) rfl
theorem dL_law_817 : decode cL_law 817 = .ok (.iload_n 3, 1) := decs_at bne_law2_4 5 (x := (817, .iload_n 3, 1)) rfl
theorem dL_law_818 : decode cL_law 818 = .ok (.iconst 1, 1) := decs_at bne_law2_4 6 (x := (818, .iconst 1, 1)) rfl
theorem dL_law_819 : decode cL_law 819 = .ok (.iadd, 1) := decs_at bne_law2_4 7 (x := (819, .iadd, 1)) rfl
theorem dL_law_820 : decode cL_law 820 = .ok (.iaload, 1) := decs_at bne_law2_4 8 (x := (820, .iaload, 1)) rfl
theorem dL_law_821 : decode cL_law 821 = .ok (.aload_n 0, 1) := decs_at bne_law2_4 9 (x := (821, .aload_n 0, 1)) rfl
theorem dL_law_822 : decode cL_law 822 = .ok (.iload_n 3, 1) := decs_at bne_law2_4 10 (x := (822, .iload_n 3, 1)) rfl
theorem dL_law_823 : decode cL_law 823 = .ok (.iconst 2, 1) := decs_at bne_law2_4 11 (x := (823, .iconst 2, 1)) rfl
theorem dL_law_824 : decode cL_law 824 = .ok (.iadd, 1) := decs_at bne_law2_4 12 (x := (824, .iadd, 1)) rfl
theorem dL_law_825 : decode cL_law 825 = .ok (.iaload, 1) := decs_at bne_law2_4 13 (x := (825, .iaload, 1)) rfl
theorem dL_law_826 : decode cL_law 826 = .ok (.i2l, 1) := decs_at bne_law2_4 14 (x := (826, .i2l, 1)) rfl
theorem dL_law_827 : decode cL_law 827 = .ok (.bipush 32, 2) := decs_at bne_law2_4 15 (x := (827, .bipush 32, 2)) rfl
theorem dL_law_829 : decode cL_law 829 = .ok (.lshl, 1) := decs_at bne_law2_4 16 (x := (829, .lshl, 1)) rfl
theorem dL_law_830 : decode cL_law 830 = .ok (.aload_n 0, 1) := decs_at bne_law2_4 17 (x := (830, .aload_n 0, 1)) rfl
theorem dL_law_831 : decode cL_law 831 = .ok (.iload_n 3, 1) := decs_at bne_law2_4 18 (x := (831, .iload_n 3, 1)) rfl
theorem dL_law_832 : decode cL_law 832 = .ok (.iconst 3, 1) := decs_at bne_law2_4 19 (x := (832, .iconst 3, 1)) rfl
theorem dL_law_833 : decode cL_law 833 = .ok (.iadd, 1) := decs_at bne_law2_4 20 (x := (833, .iadd, 1)) rfl
theorem dL_law_834 : decode cL_law 834 = .ok (.iaload, 1) := decs_at bne_law2_4 21 (x := (834, .iaload, 1)) rfl
theorem dL_law_835 : decode cL_law 835 = .ok (.i2l, 1) := decs_at bne_law2_4 22 (x := (835, .i2l, 1)) rfl
theorem dL_law_836 : decode cL_law 836 = .ok (.ldc2_w 45, 3) := decs_at bne_law2_4 23 (x := (836, .ldc2_w 45, 3)) rfl
theorem bne_law2_5 : decs cL_law [(839, .land, 1), (840, .lor, 1), (841, .invokevirtual 101, 3), (844, .pop, 1), (845, .aload_n 2, 1), (846, .aload_n 0, 1), (847, .iload_n 3, 1), (848, .iconst 1, 1), (849, .iadd, 1), (850, .iaload, 1), (851, .aload_n 0, 1), (852, .iload_n 3, 1), (853, .iconst 2, 1), (854, .iadd, 1), (855, .iaload, 1), (856, .i2l, 1), (857, .bipush 32, 2), (859, .lshl, 1), (860, .aload_n 0, 1), (861, .iload_n 3, 1), (862, .iconst 3, 1), (863, .iadd, 1), (864, .iaload, 1), (865, .i2l, 1)] = true := by decide +kernel
theorem dL_law_839 : decode cL_law 839 = .ok (.land, 1) := decs_at bne_law2_5 0 (x := (839, .land, 1)) rfl
theorem dL_law_840 : decode cL_law 840 = .ok (.lor, 1) := decs_at bne_law2_5 1 (x := (840, .lor, 1)) rfl
theorem dL_law_841 : decode cL_law 841 = .ok (.invokevirtual 101, 3) := decs_at bne_law2_5 2 (x := (841, .invokevirtual 101, 3)) rfl
theorem dL_law_844 : decode cL_law 844 = .ok (.pop, 1) := decs_at bne_law2_5 3 (x := (844, .pop, 1)) rfl
theorem dL_law_845 : decode cL_law 845 = .ok (.aload_n 2, 1) := decs_at bne_law2_5 4 (x := (845, .aload_n 2, 1)) rfl
theorem dL_law_846 : decode cL_law 846 = .ok (.aload_n 0, 1) := decs_at bne_law2_5 5 (x := (846, .aload_n 0, 1)) rfl
theorem dL_law_847 : decode cL_law 847 = .ok (.iload_n 3, 1) := decs_at bne_law2_5 6 (x := (847, .iload_n 3, 1)) rfl
theorem dL_law_848 : decode cL_law 848 = .ok (.iconst 1, 1) := decs_at bne_law2_5 7 (x := (848, .iconst 1, 1)) rfl
theorem dL_law_849 : decode cL_law 849 = .ok (.iadd, 1) := decs_at bne_law2_5 8 (x := (849, .iadd, 1)) rfl
theorem dL_law_850 : decode cL_law 850 = .ok (.iaload, 1) := decs_at bne_law2_5 9 (x := (850, .iaload, 1)) rfl
theorem dL_law_851 : decode cL_law 851 = .ok (.aload_n 0, 1) := decs_at bne_law2_5 10 (x := (851, .aload_n 0, 1)) rfl
theorem dL_law_852 : decode cL_law 852 = .ok (.iload_n 3, 1) := decs_at bne_law2_5 11 (x := (852, .iload_n 3, 1)) rfl
theorem dL_law_853 : decode cL_law 853 = .ok (.iconst 2, 1) := decs_at bne_law2_5 12 (x := (853, .iconst 2, 1)) rfl
theorem dL_law_854 : decode cL_law 854 = .ok (.iadd, 1) := decs_at bne_law2_5 13 (x := (854, .iadd, 1)) rfl
theorem dL_law_855 : decode cL_law 855 = .ok (.iaload, 1) := decs_at bne_law2_5 14 (x := (855, .iaload, 1)) rfl
theorem dL_law_856 : decode cL_law 856 = .ok (.i2l, 1) := decs_at bne_law2_5 15 (x := (856, .i2l, 1)) rfl
theorem dL_law_857 : decode cL_law 857 = .ok (.bipush 32, 2) := decs_at bne_law2_5 16 (x := (857, .bipush 32, 2)) rfl
theorem dL_law_859 : decode cL_law 859 = .ok (.lshl, 1) := decs_at bne_law2_5 17 (x := (859, .lshl, 1)) rfl
theorem dL_law_860 : decode cL_law 860 = .ok (.aload_n 0, 1) := decs_at bne_law2_5 18 (x := (860, .aload_n 0, 1)) rfl
theorem dL_law_861 : decode cL_law 861 = .ok (.iload_n 3, 1) := decs_at bne_law2_5 19 (x := (861, .iload_n 3, 1)) rfl
theorem dL_law_862 : decode cL_law 862 = .ok (.iconst 3, 1) := decs_at bne_law2_5 20 (x := (862, .iconst 3, 1)) rfl
theorem dL_law_863 : decode cL_law 863 = .ok (.iadd, 1) := decs_at bne_law2_5 21 (x := (863, .iadd, 1)) rfl
theorem dL_law_864 : decode cL_law 864 = .ok (.iaload, 1) := decs_at bne_law2_5 22 (x := (864, .iaload, 1)) rfl
theorem dL_law_865 : decode cL_law 865 = .ok (.i2l, 1) := decs_at bne_law2_5 23 (x := (865, .i2l, 1)) rfl
theorem bne_law2_6 : decs cL_law [(866, .ldc2_w 45, 3), (869, .land, 1), (870, .lor, 1), (871, .invokevirtual 105, 3), (874, .pop, 1), (875, .goto 102, 3), (878, .aload_n 1, 1), (879, .aload_n 0, 1), (880, .iload_n 3, 1), (881, .iconst 1, 1), (882, .iadd, 1), (883, .iaload, 1), (884, .invokevirtual 106, 3), (887, .pop, 1), (888, .aload_n 2, 1), (889, .aload_n 0, 1), (890, .iload_n 3, 1), (891, .iconst 1, 1), (892, .iadd, 1), (893, .iaload, 1), (894, .invokevirtual 109, 3), (897, .pop, 1), (898, .goto 79, 3), (901, .aload_n 1, 1)] = true := by decide +kernel
theorem dL_law_866 : decode cL_law 866 = .ok (.ldc2_w 45, 3) := decs_at bne_law2_6 0 (x := (866, .ldc2_w 45, 3)) rfl
theorem dL_law_869 : decode cL_law 869 = .ok (.land, 1) := decs_at bne_law2_6 1 (x := (869, .land, 1)) rfl
theorem dL_law_870 : decode cL_law 870 = .ok (.lor, 1) := decs_at bne_law2_6 2 (x := (870, .lor, 1)) rfl
theorem dL_law_871 : decode cL_law 871 = .ok (.invokevirtual 105, 3) := decs_at bne_law2_6 3 (x := (871, .invokevirtual 105, 3)) rfl
theorem dL_law_874 : decode cL_law 874 = .ok (.pop, 1) := decs_at bne_law2_6 4 (x := (874, .pop, 1)) rfl
theorem dL_law_875 : decode cL_law 875 = .ok (.goto 102, 3) := decs_at bne_law2_6 5 (x := (875, .goto 102, 3)) rfl
theorem dL_law_878 : decode cL_law 878 = .ok (.aload_n 1, 1) := decs_at bne_law2_6 6 (x := (878, .aload_n 1, 1)) rfl
theorem dL_law_879 : decode cL_law 879 = .ok (.aload_n 0, 1) := decs_at bne_law2_6 7 (x := (879, .aload_n 0, 1)) rfl
theorem dL_law_880 : decode cL_law 880 = .ok (.iload_n 3, 1) := decs_at bne_law2_6 8 (x := (880, .iload_n 3, 1)) rfl
theorem dL_law_881 : decode cL_law 881 = .ok (.iconst 1, 1) := decs_at bne_law2_6 9 (x := (881, .iconst 1, 1)) rfl
theorem dL_law_882 : decode cL_law 882 = .ok (.iadd, 1) := decs_at bne_law2_6 10 (x := (882, .iadd, 1)) rfl
theorem dL_law_883 : decode cL_law 883 = .ok (.iaload, 1) := decs_at bne_law2_6 11 (x := (883, .iaload, 1)) rfl
theorem dL_law_884 : decode cL_law 884 = .ok (.invokevirtual 106, 3) := decs_at bne_law2_6 12 (x := (884, .invokevirtual 106, 3)) rfl
theorem dL_law_887 : decode cL_law 887 = .ok (.pop, 1) := decs_at bne_law2_6 13 (x := (887, .pop, 1)) rfl
theorem dL_law_888 : decode cL_law 888 = .ok (.aload_n 2, 1) := decs_at bne_law2_6 14 (x := (888, .aload_n 2, 1)) rfl
theorem dL_law_889 : decode cL_law 889 = .ok (.aload_n 0, 1) := decs_at bne_law2_6 15 (x := (889, .aload_n 0, 1)) rfl
theorem dL_law_890 : decode cL_law 890 = .ok (.iload_n 3, 1) := decs_at bne_law2_6 16 (x := (890, .iload_n 3, 1)) rfl
theorem dL_law_891 : decode cL_law 891 = .ok (.iconst 1, 1) := decs_at bne_law2_6 17 (x := (891, .iconst 1, 1)) rfl
theorem dL_law_892 : decode cL_law 892 = .ok (.iadd, 1) := decs_at bne_law2_6 18 (x := (892, .iadd, 1)) rfl
theorem dL_law_893 : decode cL_law 893 = .ok (.iaload, 1) := decs_at bne_law2_6 19 (x := (893, .iaload, 1)) rfl
theorem dL_law_894 : decode cL_law 894 = .ok (.invokevirtual 109, 3) := decs_at bne_law2_6 20 (x := (894, .invokevirtual 109, 3)) rfl
theorem dL_law_897 : decode cL_law 897 = .ok (.pop, 1) := decs_at bne_law2_6 21 (x := (897, .pop, 1)) rfl
theorem dL_law_898 : decode cL_law 898 = .ok (.goto 79, 3) := decs_at bne_law2_6 22 (x := (898, .goto 79, 3)) rfl
theorem dL_law_901 : decode cL_law 901 = .ok (.aload_n 1, 1) := decs_at bne_law2_6 23 (x := (901, .aload_n 1, 1)) rfl
theorem bne_law2_7 : decs cL_law [(902, .aload_n 0, 1), (903, .iload_n 3, 1), (904, .iconst 1, 1), (905, .iadd, 1), (906, .iaload, 1), (907, .aload_n 0, 1), (908, .iload_n 3, 1), (909, .iconst 2, 1), (910, .iadd, 1), (911, .iaload, 1), (912, .invokevirtual 110, 3), (915, .pop, 1), (916, .aload_n 2, 1), (917, .aload_n 0, 1), (918, .iload_n 3, 1), (919, .iconst 1, 1), (920, .iadd, 1), (921, .iaload, 1), (922, .aload_n 0, 1), (923, .iload_n 3, 1), (924, .iconst 2, 1), (925, .iadd, 1), (926, .iaload, 1), (927, .invokevirtual 113, 3)] = true := by decide +kernel
theorem dL_law_902 : decode cL_law 902 = .ok (.aload_n 0, 1) := decs_at bne_law2_7 0 (x := (902, .aload_n 0, 1)) rfl
theorem dL_law_903 : decode cL_law 903 = .ok (.iload_n 3, 1) := decs_at bne_law2_7 1 (x := (903, .iload_n 3, 1)) rfl
theorem dL_law_904 : decode cL_law 904 = .ok (.iconst 1, 1) := decs_at bne_law2_7 2 (x := (904, .iconst 1, 1)) rfl
theorem dL_law_905 : decode cL_law 905 = .ok (.iadd, 1) := decs_at bne_law2_7 3 (x := (905, .iadd, 1)) rfl
theorem dL_law_906 : decode cL_law 906 = .ok (.iaload, 1) := decs_at bne_law2_7 4 (x := (906, .iaload, 1)) rfl
theorem dL_law_907 : decode cL_law 907 = .ok (.aload_n 0, 1) := decs_at bne_law2_7 5 (x := (907, .aload_n 0, 1)) rfl
theorem dL_law_908 : decode cL_law 908 = .ok (.iload_n 3, 1) := decs_at bne_law2_7 6 (x := (908, .iload_n 3, 1)) rfl
theorem dL_law_909 : decode cL_law 909 = .ok (.iconst 2, 1) := decs_at bne_law2_7 7 (x := (909, .iconst 2, 1)) rfl
theorem dL_law_910 : decode cL_law 910 = .ok (.iadd, 1) := decs_at bne_law2_7 8 (x := (910, .iadd, 1)) rfl
theorem dL_law_911 : decode cL_law 911 = .ok (.iaload, 1) := decs_at bne_law2_7 9 (x := (911, .iaload, 1)) rfl
theorem dL_law_912 : decode cL_law 912 = .ok (.invokevirtual 110, 3) := decs_at bne_law2_7 10 (x := (912, .invokevirtual 110, 3)) rfl
theorem dL_law_915 : decode cL_law 915 = .ok (.pop, 1) := decs_at bne_law2_7 11 (x := (915, .pop, 1)) rfl
theorem dL_law_916 : decode cL_law 916 = .ok (.aload_n 2, 1) := decs_at bne_law2_7 12 (x := (916, .aload_n 2, 1)) rfl
theorem dL_law_917 : decode cL_law 917 = .ok (.aload_n 0, 1) := decs_at bne_law2_7 13 (x := (917, .aload_n 0, 1)) rfl
theorem dL_law_918 : decode cL_law 918 = .ok (.iload_n 3, 1) := decs_at bne_law2_7 14 (x := (918, .iload_n 3, 1)) rfl
theorem dL_law_919 : decode cL_law 919 = .ok (.iconst 1, 1) := decs_at bne_law2_7 15 (x := (919, .iconst 1, 1)) rfl
theorem dL_law_920 : decode cL_law 920 = .ok (.iadd, 1) := decs_at bne_law2_7 16 (x := (920, .iadd, 1)) rfl
theorem dL_law_921 : decode cL_law 921 = .ok (.iaload, 1) := decs_at bne_law2_7 17 (x := (921, .iaload, 1)) rfl
theorem dL_law_922 : decode cL_law 922 = .ok (.aload_n 0, 1) := decs_at bne_law2_7 18 (x := (922, .aload_n 0, 1)) rfl
theorem dL_law_923 : decode cL_law 923 = .ok (.iload_n 3, 1) := decs_at bne_law2_7 19 (x := (923, .iload_n 3, 1)) rfl
theorem dL_law_924 : decode cL_law 924 = .ok (.iconst 2, 1) := decs_at bne_law2_7 20 (x := (924, .iconst 2, 1)) rfl
theorem dL_law_925 : decode cL_law 925 = .ok (.iadd, 1) := decs_at bne_law2_7 21 (x := (925, .iadd, 1)) rfl
theorem dL_law_926 : decode cL_law 926 = .ok (.iaload, 1) := decs_at bne_law2_7 22 (x := (926, .iaload, 1)) rfl
theorem dL_law_927 : decode cL_law 927 = .ok (.invokevirtual 113, 3) := decs_at bne_law2_7 23 (x := (927, .invokevirtual 113, 3)) rfl
theorem bne_law2_8 : decs cL_law [(930, .pop, 1), (931, .goto 46, 3), (934, .aload_n 1, 1), (935, .aload_n 0, 1), (936, .iload_n 3, 1), (937, .iconst 1, 1), (938, .iadd, 1), (939, .iaload, 1), (940, .aload_n 0, 1), (941, .iload_n 3, 1), (942, .iconst 2, 1), (943, .iadd, 1), (944, .iaload, 1), (945, .aload_n 0, 1), (946, .iload_n 3, 1), (947, .iconst 3, 1), (948, .iadd, 1), (949, .iaload, 1), (950, .invokevirtual 114, 3), (953, .pop, 1), (954, .aload_n 2, 1), (955, .aload_n 0, 1), (956, .iload_n 3, 1), (957, .iconst 1, 1)] = true := by decide +kernel
theorem dL_law_930 : decode cL_law 930 = .ok (.pop, 1) := decs_at bne_law2_8 0 (x := (930, .pop, 1)) rfl
theorem dL_law_931 : decode cL_law 931 = .ok (.goto 46, 3) := decs_at bne_law2_8 1 (x := (931, .goto 46, 3)) rfl
theorem dL_law_934 : decode cL_law 934 = .ok (.aload_n 1, 1) := decs_at bne_law2_8 2 (x := (934, .aload_n 1, 1)) rfl
theorem dL_law_935 : decode cL_law 935 = .ok (.aload_n 0, 1) := decs_at bne_law2_8 3 (x := (935, .aload_n 0, 1)) rfl
theorem dL_law_936 : decode cL_law 936 = .ok (.iload_n 3, 1) := decs_at bne_law2_8 4 (x := (936, .iload_n 3, 1)) rfl
theorem dL_law_937 : decode cL_law 937 = .ok (.iconst 1, 1) := decs_at bne_law2_8 5 (x := (937, .iconst 1, 1)) rfl
theorem dL_law_938 : decode cL_law 938 = .ok (.iadd, 1) := decs_at bne_law2_8 6 (x := (938, .iadd, 1)) rfl
theorem dL_law_939 : decode cL_law 939 = .ok (.iaload, 1) := decs_at bne_law2_8 7 (x := (939, .iaload, 1)) rfl
theorem dL_law_940 : decode cL_law 940 = .ok (.aload_n 0, 1) := decs_at bne_law2_8 8 (x := (940, .aload_n 0, 1)) rfl
theorem dL_law_941 : decode cL_law 941 = .ok (.iload_n 3, 1) := decs_at bne_law2_8 9 (x := (941, .iload_n 3, 1)) rfl
theorem dL_law_942 : decode cL_law 942 = .ok (.iconst 2, 1) := decs_at bne_law2_8 10 (x := (942, .iconst 2, 1)) rfl
theorem dL_law_943 : decode cL_law 943 = .ok (.iadd, 1) := decs_at bne_law2_8 11 (x := (943, .iadd, 1)) rfl
theorem dL_law_944 : decode cL_law 944 = .ok (.iaload, 1) := decs_at bne_law2_8 12 (x := (944, .iaload, 1)) rfl
theorem dL_law_945 : decode cL_law 945 = .ok (.aload_n 0, 1) := decs_at bne_law2_8 13 (x := (945, .aload_n 0, 1)) rfl
theorem dL_law_946 : decode cL_law 946 = .ok (.iload_n 3, 1) := decs_at bne_law2_8 14 (x := (946, .iload_n 3, 1)) rfl
theorem dL_law_947 : decode cL_law 947 = .ok (.iconst 3, 1) := decs_at bne_law2_8 15 (x := (947, .iconst 3, 1)) rfl
theorem dL_law_948 : decode cL_law 948 = .ok (.iadd, 1) := decs_at bne_law2_8 16 (x := (948, .iadd, 1)) rfl
theorem dL_law_949 : decode cL_law 949 = .ok (.iaload, 1) := decs_at bne_law2_8 17 (x := (949, .iaload, 1)) rfl
theorem dL_law_950 : decode cL_law 950 = .ok (.invokevirtual 114, 3) := decs_at bne_law2_8 18 (x := (950, .invokevirtual 114, 3)) rfl
theorem dL_law_953 : decode cL_law 953 = .ok (.pop, 1) := decs_at bne_law2_8 19 (x := (953, .pop, 1)) rfl
theorem dL_law_954 : decode cL_law 954 = .ok (.aload_n 2, 1) := decs_at bne_law2_8 20 (x := (954, .aload_n 2, 1)) rfl
theorem dL_law_955 : decode cL_law 955 = .ok (.aload_n 0, 1) := decs_at bne_law2_8 21 (x := (955, .aload_n 0, 1)) rfl
theorem dL_law_956 : decode cL_law 956 = .ok (.iload_n 3, 1) := decs_at bne_law2_8 22 (x := (956, .iload_n 3, 1)) rfl
theorem dL_law_957 : decode cL_law 957 = .ok (.iconst 1, 1) := decs_at bne_law2_8 23 (x := (957, .iconst 1, 1)) rfl
theorem bne_law2_9 : decs cL_law [(958, .iadd, 1), (959, .iaload, 1), (960, .aload_n 0, 1), (961, .iload_n 3, 1), (962, .iconst 2, 1), (963, .iadd, 1), (964, .iaload, 1), (965, .aload_n 0, 1), (966, .iload_n 3, 1), (967, .iconst 3, 1), (968, .iadd, 1), (969, .iaload, 1), (970, .invokevirtual 117, 3), (973, .pop, 1), (974, .goto 3, 3), (977, .iinc 3 5, 3), (980, .goto (-962), 3), (983, .iconst 1, 1), (984, .ireturn, 1)] = true := by decide +kernel
theorem dL_law_958 : decode cL_law 958 = .ok (.iadd, 1) := decs_at bne_law2_9 0 (x := (958, .iadd, 1)) rfl
theorem dL_law_959 : decode cL_law 959 = .ok (.iaload, 1) := decs_at bne_law2_9 1 (x := (959, .iaload, 1)) rfl
theorem dL_law_960 : decode cL_law 960 = .ok (.aload_n 0, 1) := decs_at bne_law2_9 2 (x := (960, .aload_n 0, 1)) rfl
theorem dL_law_961 : decode cL_law 961 = .ok (.iload_n 3, 1) := decs_at bne_law2_9 3 (x := (961, .iload_n 3, 1)) rfl
theorem dL_law_962 : decode cL_law 962 = .ok (.iconst 2, 1) := decs_at bne_law2_9 4 (x := (962, .iconst 2, 1)) rfl
theorem dL_law_963 : decode cL_law 963 = .ok (.iadd, 1) := decs_at bne_law2_9 5 (x := (963, .iadd, 1)) rfl
theorem dL_law_964 : decode cL_law 964 = .ok (.iaload, 1) := decs_at bne_law2_9 6 (x := (964, .iaload, 1)) rfl
theorem dL_law_965 : decode cL_law 965 = .ok (.aload_n 0, 1) := decs_at bne_law2_9 7 (x := (965, .aload_n 0, 1)) rfl
theorem dL_law_966 : decode cL_law 966 = .ok (.iload_n 3, 1) := decs_at bne_law2_9 8 (x := (966, .iload_n 3, 1)) rfl
theorem dL_law_967 : decode cL_law 967 = .ok (.iconst 3, 1) := decs_at bne_law2_9 9 (x := (967, .iconst 3, 1)) rfl
theorem dL_law_968 : decode cL_law 968 = .ok (.iadd, 1) := decs_at bne_law2_9 10 (x := (968, .iadd, 1)) rfl
theorem dL_law_969 : decode cL_law 969 = .ok (.iaload, 1) := decs_at bne_law2_9 11 (x := (969, .iaload, 1)) rfl
theorem dL_law_970 : decode cL_law 970 = .ok (.invokevirtual 117, 3) := decs_at bne_law2_9 12 (x := (970, .invokevirtual 117, 3)) rfl
theorem dL_law_973 : decode cL_law 973 = .ok (.pop, 1) := decs_at bne_law2_9 13 (x := (973, .pop, 1)) rfl
theorem dL_law_974 : decode cL_law 974 = .ok (.goto 3, 3) := decs_at bne_law2_9 14 (x := (974, .goto 3, 3)) rfl
theorem dL_law_977 : decode cL_law 977 = .ok (.iinc 3 5, 3) := decs_at bne_law2_9 15 (x := (977, .iinc 3 5, 3)) rfl
theorem dL_law_980 : decode cL_law 980 = .ok (.goto (-962), 3) := decs_at bne_law2_9 16 (x := (980, .goto (-962), 3)) rfl
theorem dL_law_983 : decode cL_law 983 = .ok (.iconst 1, 1) := decs_at bne_law2_9 17 (x := (983, .iconst 1, 1)) rfl
theorem dL_law_984 : decode cL_law 984 = .ok (.ireturn, 1) := decs_at bne_law2_9 18 (x := (984, .ireturn, 1)) rfl
abbrev vwCl : List vw_C := [(RX0, TX0, 4), (RX1, TX1, 6), (RX2, TX2, 9), (RX3, TX3, 23)]
