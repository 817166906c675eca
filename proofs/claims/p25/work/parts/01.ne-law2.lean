theorem bne_law2_0 : decs cL_law [(682, .invokevirtual 79, 3), (685, .pop, 1), (686, .goto 290, 3), (689, .aload_n 1, 1), (690, .aload_n 0, 1), (691, .iload_n 3, 1), (692, .iconst 1, 1), (693, .iadd, 1), (694, .iaload, 1), (695, .invokevirtual 80, 3), (698, .pop, 1), (699, .aload_n 2, 1), (700, .aload_n 0, 1), (701, .iload_n 3, 1), (702, .iconst 1, 1), (703, .iadd, 1), (704, .iaload, 1), (705, .invokevirtual 83, 3), (708, .pop, 1), (709, .goto 267, 3), (712, .aload_n 1, 1), (713, .aload_n 0, 1), (714, .iload_n 3, 1), (715, .iconst 1, 1)] = true := by decide +kernel
theorem dL_law_682 : decode cL_law 682 = .ok (.invokevirtual 79, 3) := decs_at bne_law2_0 0 (x := (682, .invokevirtual 79, 3)) rfl
theorem dL_law_685 : decode cL_law 685 = .ok (.pop, 1) := decs_at bne_law2_0 1 (x := (685, .pop, 1)) rfl
theorem dL_law_686 : decode cL_law 686 = .ok (.goto 290, 3) := decs_at bne_law2_0 2 (x := (686, .goto 290, 3)) rfl
theorem dL_law_689 : decode cL_law 689 = .ok (.aload_n 1, 1) := decs_at bne_law2_0 3 (x := (689, .aload_n 1, 1)) rfl
theorem dL_law_690 : decode cL_law 690 = .ok (.aload_n 0, 1) := decs_at bne_law2_0 4 (x := (690, .aload_n 0, 1)) rfl
theorem dL_law_691 : decode cL_law 691 = .ok (.iload_n 3, 1) := decs_at bne_law2_0 5 (x := (691, .iload_n 3, 1)) rfl
theorem dL_law_692 : decode cL_law 692 = .ok (.iconst 1, 1) := decs_at bne_law2_0 6 (x := (692, .iconst 1, 1)) rfl
theorem dL_law_693 : decode cL_law 693 = .ok (.iadd, 1) := decs_at bne_law2_0 7 (x := (693, .iadd, 1)) rfl
theorem dL_law_694 : decode cL_law 694 = .ok (.iaload, 1) := decs_at bne_law2_0 8 (x := (694, .iaload, 1)) rfl
theorem dL_law_695 : decode cL_law 695 = .ok (.invokevirtual 80, 3) := decs_at bne_law2_0 9 (x := (695, .invokevirtual 80, 3)) rfl
theorem dL_law_698 : decode cL_law 698 = .ok (.pop, 1) := decs_at bne_law2_0 10 (x := (698, .pop, 1)) rfl
theorem dL_law_699 : decode cL_law 699 = .ok (.aload_n 2, 1) := decs_at bne_law2_0 11 (x := (699, .aload_n 2, 1)) rfl
theorem dL_law_700 : decode cL_law 700 = .ok (.aload_n 0, 1) := decs_at bne_law2_0 12 (x := (700, .aload_n 0, 1)) rfl
theorem dL_law_701 : decode cL_law 701 = .ok (.iload_n 3, 1) := decs_at bne_law2_0 13 (x := (701, .iload_n 3, 1)) rfl
theorem dL_law_702 : decode cL_law 702 = .ok (.iconst 1, 1) := decs_at bne_law2_0 14 (x := (702, .iconst 1, 1)) rfl
theorem dL_law_703 : decode cL_law 703 = .ok (.iadd, 1) := decs_at bne_law2_0 15 (x := (703, .iadd, 1)) rfl
theorem dL_law_704 : decode cL_law 704 = .ok (.iaload, 1) := decs_at bne_law2_0 16 (x := (704, .iaload, 1)) rfl
theorem dL_law_705 : decode cL_law 705 = .ok (.invokevirtual 83, 3) := decs_at bne_law2_0 17 (x := (705, .invokevirtual 83, 3)) rfl
theorem dL_law_708 : decode cL_law 708 = .ok (.pop, 1) := decs_at bne_law2_0 18 (x := (708, .pop, 1)) rfl
theorem dL_law_709 : decode cL_law 709 = .ok (.goto 267, 3) := decs_at bne_law2_0 19 (x := (709, .goto 267, 3)) rfl
theorem dL_law_712 : decode cL_law 712 = .ok (.aload_n 1, 1) := decs_at bne_law2_0 20 (x := (712, .aload_n 1, 1)) rfl
theorem dL_law_713 : decode cL_law 713 = .ok (.aload_n 0, 1) := decs_at bne_law2_0 21 (x := (713, .aload_n 0, 1)) rfl
theorem dL_law_714 : decode cL_law 714 = .ok (.iload_n 3, 1) := decs_at bne_law2_0 22 (x := (714, .iload_n 3, 1)) rfl
theorem dL_law_715 : decode cL_law 715 = .ok (.iconst 1, 1) := decs_at bne_law2_0 23 (x := (715, .iconst 1, 1)) rfl
theorem bne_law2_1 : decs cL_law [(716, .iadd, 1), (717, .iaload, 1), (718, .aload_n 0, 1), (719, .iload_n 3, 1), (720, .iconst 2, 1), (721, .iadd, 1), (722, .iaload, 1), (723, .invokevirtual 84, 3), (726, .pop, 1), (727, .aload_n 2, 1), (728, .aload_n 0, 1), (729, .iload_n 3, 1), (730, .iconst 1, 1), (731, .iadd, 1), (732, .iaload, 1), (733, .aload_n 0, 1), (734, .iload_n 3, 1), (735, .iconst 2, 1), (736, .iadd, 1), (737, .iaload, 1), (738, .invokevirtual 87, 3), (741, .pop, 1), (742, .goto 234, 3), (745, .aload_n 1, 1)] = true := by decide +kernel
theorem dL_law_716 : decode cL_law 716 = .ok (.iadd, 1) := decs_at bne_law2_1 0 (x := (716, .iadd, 1)) rfl
theorem dL_law_717 : decode cL_law 717 = .ok (.iaload, 1) := decs_at bne_law2_1 1 (x := (717, .iaload, 1)) rfl
theorem dL_law_718 : decode cL_law 718 = .ok (.aload_n 0, 1) := decs_at bne_law2_1 2 (x := (718, .aload_n 0, 1)) rfl
theorem dL_law_719 : decode cL_law 719 = .ok (.iload_n 3, 1) := decs_at bne_law2_1 3 (x := (719, .iload_n 3, 1)) rfl
theorem dL_law_720 : decode cL_law 720 = .ok (.iconst 2, 1) := decs_at bne_law2_1 4 (x := (720, .iconst 2, 1)) rfl
theorem dL_law_721 : decode cL_law 721 = .ok (.iadd, 1) := decs_at bne_law2_1 5 (x := (721, .iadd, 1)) rfl
theorem dL_law_722 : decode cL_law 722 = .ok (.iaload, 1) := decs_at bne_law2_1 6 (x := (722, .iaload, 1)) rfl
theorem dL_law_723 : decode cL_law 723 = .ok (.invokevirtual 84, 3) := decs_at bne_law2_1 7 (x := (723, .invokevirtual 84, 3)) rfl
theorem dL_law_726 : decode cL_law 726 = .ok (.pop, 1) := decs_at bne_law2_1 8 (x := (726, .pop, 1)) rfl
theorem dL_law_727 : decode cL_law 727 = .ok (.aload_n 2, 1) := decs_at bne_law2_1 9 (x := (727, .aload_n 2, 1)) rfl
theorem dL_law_728 : decode cL_law 728 = .ok (.aload_n 0, 1) := decs_at bne_law2_1 10 (x := (728, .aload_n 0, 1)) rfl
theorem dL_law_729 : decode cL_law 729 = .ok (.iload_n 3, 1) := decs_at bne_law2_1 11 (x := (729, .iload_n 3, 1)) rfl
theorem dL_law_730 : decode cL_law 730 = .ok (.iconst 1, 1) := decs_at bne_law2_1 12 (x := (730, .iconst 1, 1)) rfl
theorem dL_law_731 : decode cL_law 731 = .ok (.iadd, 1) := decs_at bne_law2_1 13 (x := (731, .iadd, 1)) rfl
theorem dL_law_732 : decode cL_law 732 = .ok (.iaload, 1) := decs_at bne_law2_1 14 (x := (732, .iaload, 1)) rfl
theorem dL_law_733 : decode cL_law 733 = .ok (.aload_n 0, 1) := decs_at bne_law2_1 15 (x := (733, .aload_n 0, 1)) rfl
theorem dL_law_734 : decode cL_law 734 = .ok (.iload_n 3, 1) := decs_at bne_law2_1 16 (x := (734, .iload_n 3, 1)) rfl
theorem dL_law_735 : decode cL_law 735 = .ok (.iconst 2, 1) := decs_at bne_law2_1 17 (x := (735, .iconst 2, 1)) rfl
theorem dL_law_736 : decode cL_law 736 = .ok (.iadd, 1) := decs_at bne_law2_1 18 (x := (736, .iadd, 1)) rfl
theorem dL_law_737 : decode cL_law 737 = .ok (.iaload, 1) := decs_at bne_law2_1 19 (x := (737, .iaload, 1)) rfl
theorem dL_law_738 : decode cL_law 738 = .ok (.invokevirtual 87, 3) := decs_at bne_law2_1 20 (x := (738, .invokevirtual 87, 3)) rfl
theorem dL_law_741 : decode cL_law 741 = .ok (.pop, 1) := decs_at bne_law2_1 21 (x := (741, .pop, 1)) rfl
theorem dL_law_742 : decode cL_law 742 = .ok (.goto 234, 3) := decs_at bne_law2_1 22 (x := (742, .goto 234, 3)) rfl
theorem dL_law_745 : decode cL_law 745 = .ok (.aload_n 1, 1) := decs_at bne_law2_1 23 (x := (745, .aload_n 1, 1)) rfl
theorem bne_law2_2 : decs cL_law [(746, .invokevirtual 88, 3), (749, .pop, 1), (750, .aload_n 2, 1), (751, .invokevirtual 92, 3), (754, .pop, 1), (755, .goto 221, 3), (758, .aload_n 1, 1), (759, .aload_n 0, 1), (760, .iload_n 3, 1), (761, .iconst 1, 1), (762, .iadd, 1), (763, .iaload, 1), (764, .invokevirtual 93, 3), (767, .pop, 1), (768, .aload_n 2, 1), (769, .aload_n 0, 1), (770, .iload_n 3, 1), (771, .iconst 1, 1), (772, .iadd, 1), (773, .iaload, 1), (774, .invokevirtual 96, 3), (777, .pop, 1), (778, .goto 198, 3), (781, .aload_n 1, 1)] = true := by decide +kernel
theorem dL_law_746 : decode cL_law 746 = .ok (.invokevirtual 88, 3) := decs_at bne_law2_2 0 (x := (746, .invokevirtual 88, 3)) rfl
theorem dL_law_749 : decode cL_law 749 = .ok (.pop, 1) := decs_at bne_law2_2 1 (x := (749, .pop, 1)) rfl
theorem dL_law_750 : decode cL_law 750 = .ok (.aload_n 2, 1) := decs_at bne_law2_2 2 (x := (750, .aload_n 2, 1)) rfl
theorem dL_law_751 : decode cL_law 751 = .ok (.invokevirtual 92, 3) := decs_at bne_law2_2 3 (x := (751, .invokevirtual 92, 3)) rfl
theorem dL_law_754 : decode cL_law 754 = .ok (.pop, 1) := decs_at bne_law2_2 4 (x := (754, .pop, 1)) rfl
theorem dL_law_755 : decode cL_law 755 = .ok (.goto 221, 3) := decs_at bne_law2_2 5 (x := (755, .goto 221, 3)) rfl
theorem dL_law_758 : decode cL_law 758 = .ok (.aload_n 1, 1) := decs_at bne_law2_2 6 (x := (758, .aload_n 1, 1)) rfl
theorem dL_law_759 : decode cL_law 759 = .ok (.aload_n 0, 1) := decs_at bne_law2_2 7 (x := (759, .aload_n 0, 1)) rfl
theorem dL_law_760 : decode cL_law 760 = .ok (.iload_n 3, 1) := decs_at bne_law2_2 8 (x := (760, .iload_n 3, 1)) rfl
theorem dL_law_761 : decode cL_law 761 = .ok (.iconst 1, 1) := decs_at bne_law2_2 9 (x := (761, .iconst 1, 1)) rfl
theorem dL_law_762 : decode cL_law 762 = .ok (.iadd, 1) := decs_at bne_law2_2 10 (x := (762, .iadd, 1)) rfl
theorem dL_law_763 : decode cL_law 763 = .ok (.iaload, 1) := decs_at bne_law2_2 11 (x := (763, .iaload, 1)) rfl
theorem dL_law_764 : decode cL_law 764 = .ok (.invokevirtual 93, 3) := decs_at bne_law2_2 12 (x := (764, .invokevirtual 93, 3)) rfl
theorem dL_law_767 : decode cL_law 767 = .ok (.pop, 1) := decs_at bne_law2_2 13 (x := (767, .pop, 1)) rfl
theorem dL_law_768 : decode cL_law 768 = .ok (.aload_n 2, 1) := decs_at bne_law2_2 14 (x := (768, .aload_n 2, 1)) rfl
theorem dL_law_769 : decode cL_law 769 = .ok (.aload_n 0, 1) := decs_at bne_law2_2 15 (x := (769, .aload_n 0, 1)) rfl
theorem dL_law_770 : decode cL_law 770 = .ok (.iload_n 3, 1) := decs_at bne_law2_2 16 (x := (770, .iload_n 3, 1)) rfl
theorem dL_law_771 : decode cL_law 771 = .ok (.iconst 1, 1) := decs_at bne_law2_2 17 (x := (771, .iconst 1, 1)) rfl
theorem dL_law_772 : decode cL_law 772 = .ok (.iadd, 1) := decs_at bne_law2_2 18 (x := (772, .iadd, 1)) rfl
theorem dL_law_773 : decode cL_law 773 = .ok (.iaload, 1) := decs_at bne_law2_2 19 (x := (773, .iaload, 1)) rfl
theorem dL_law_774 : decode cL_law 774 = .ok (.invokevirtual 96, 3) := decs_at bne_law2_2 20 (x := (774, .invokevirtual 96, 3)) rfl
theorem dL_law_777 : decode cL_law 777 = .ok (.pop, 1) := decs_at bne_law2_2 21 (x := (777, .pop, 1)) rfl
theorem dL_law_778 : decode cL_law 778 = .ok (.goto 198, 3) := decs_at bne_law2_2 22 (x := (778, .goto 198, 3)) rfl
theorem dL_law_781 : decode cL_law 781 = .ok (.aload_n 1, 1) := decs_at bne_law2_2 23 (x := (781, .aload_n 1, 1)) rfl
theorem bne_law2_3 : decs cL_law [(782, .aload_n 0, 1), (783, .iload_n 3, 1), (784, .iconst 1, 1), (785, .iadd, 1), (786, .iaload, 1), (787, .aload_n 0, 1), (788, .iload_n 3, 1), (789, .iconst 2, 1), (790, .iadd, 1), (791, .iaload, 1), (792, .invokevirtual 97, 3), (795, .pop2, 1), (796, .aload_n 2, 1), (797, .aload_n 0, 1), (798, .iload_n 3, 1), (799, .iconst 1, 1), (800, .iadd, 1), (801, .iaload, 1), (802, .aload_n 0, 1), (803, .iload_n 3, 1), (804, .iconst 2, 1), (805, .iadd, 1), (806, .iaload, 1), (807, .invokevirtual 100, 3)] = true := by decide +kernel
theorem dL_law_782 : decode cL_law 782 = .ok (.aload_n 0, 1) := decs_at bne_law2_3 0 (x := (782, .aload_n 0, 1)) rfl
theorem dL_law_783 : decode cL_law 783 = .ok (.iload_n 3, 1) := decs_at bne_law2_3 1 (x := (783, .iload_n 3, 1)) rfl
theorem dL_law_784 : decode cL_law 784 = .ok (.iconst 1, 1) := decs_at bne_law2_3 2 (x := (784, .iconst 1, 1)) rfl
theorem dL_law_785 : decode cL_law 785 = .ok (.iadd, 1) := decs_at bne_law2_3 3 (x := (785, .iadd, 1)) rfl
theorem dL_law_786 : decode cL_law 786 = .ok (.iaload, 1) := decs_at bne_law2_3 4 (x := (786, .iaload, 1)) rfl
theorem dL_law_787 : decode cL_law 787 = .ok (.aload_n 0, 1) := decs_at bne_law2_3 5 (x := (787, .aload_n 0, 1)) rfl
theorem dL_law_788 : decode cL_law 788 = .ok (.iload_n 3, 1) := decs_at bne_law2_3 6 (x := (788, .iload_n 3, 1)) rfl
theorem dL_law_789 : decode cL_law 789 = .ok (.iconst 2, 1) := decs_at bne_law2_3 7 (x := (789, .iconst 2, 1)) rfl
theorem dL_law_790 : decode cL_law 790 = .ok (.iadd, 1) := decs_at bne_law2_3 8 (x := (790, .iadd, 1)) rfl
theorem dL_law_791 : decode cL_law 791 = .ok (.iaload, 1) := decs_at bne_law2_3 9 (x := (791, .iaload, 1)) rfl
theorem dL_law_792 : decode cL_law 792 = .ok (.invokevirtual 97, 3) := decs_at bne_law2_3 10 (x := (792, .invokevirtual 97, 3)) rfl
theorem dL_law_795 : decode cL_law 795 = .ok (.pop2, 1) := decs_at bne_law2_3 11 (x := (795, .pop2, 1)) rfl
theorem dL_law_796 : decode cL_law 796 = .ok (.aload_n 2, 1) := decs_at bne_law2_3 12 (x := (796, .aload_n 2, 1)) rfl
theorem dL_law_797 : decode cL_law 797 = .ok (.aload_n 0, 1) := decs_at bne_law2_3 13 (x := (797, .aload_n 0, 1)) rfl
theorem dL_law_798 : decode cL_law 798 = .ok (.iload_n 3, 1) := decs_at bne_law2_3 14 (x := (798, .iload_n 3, 1)) rfl
theorem dL_law_799 : decode cL_law 799 = .ok (.iconst 1, 1) := decs_at bne_law2_3 15 (x := (799, .iconst 1, 1)) rfl
theorem dL_law_800 : decode cL_law 800 = .ok (.iadd, 1) := decs_at bne_law2_3 16 (x := (800, .iadd, 1)) rfl
theorem dL_law_801 : decode cL_law 801 = .ok (.iaload, 1) := decs_at bne_law2_3 17 (x := (801, .iaload, 1)) rfl
theorem dL_law_802 : decode cL_law 802 = .ok (.aload_n 0, 1) := decs_at bne_law2_3 18 (x := (802, .aload_n 0, 1)) rfl
theorem dL_law_803 : decode cL_law 803 = .ok (.iload_n 3, 1) := decs_at bne_law2_3 19 (x := (803, .iload_n 3, 1)) rfl
theorem dL_law_804 : decode cL_law 804 = .ok (.iconst 2, 1) := decs_at bne_law2_3 20 (x := (804, .iconst 2, 1)) rfl
theorem dL_law_805 : decode cL_law 805 = .ok (.iadd, 1) := decs_at bne_law2_3 21 (x := (805, .iadd, 1)) rfl
theorem dL_law_806 : decode cL_law 806 = .ok (.iaload, 1) := decs_at bne_law2_3 22 (x := (806, .iaload, 1)) rfl
theorem dL_law_807 : decode cL_law 807 = .ok (.invokevirtual 100, 3) := decs_at bne_law2_3 23 (x := (807, .invokevirtual 100, 3)) rfl
theorem bne_law2_4 : decs cL_law [(810, .pop2, 1), (811, .goto 165, 3), (814, .aload_n 1, 1), (815, .aload_n 0, 1), (816, .iload_n 3, 1), (817, .iconst 1, 1), (818, .iadd, 1), (819, .iaload, 1), (820, .aload_n 0, 1), (821, .iload_n 3, 1), (822, .iconst 2, 1), (823, .iadd, 1), (824, .iaload, 1), (825, .i2l, 1), (826, .bipush 32, 2), (828, .lshl, 1), (829, .aload_n 0, 1), (830, .iload_n 3, 1), (831, .iconst 3, 1), (832, .iadd, 1), (833, .iaload, 1), (834, .i2l, 1), (835, .ldc2_w 45, 3), (838, .land, 1)] = true := by decide +kernel
theorem dL_law_810 : decode cL_law 810 = .ok (.pop2, 1) := decs_at bne_law2_4 0 (x := (810, .pop2, 1)) rfl
theorem dL_law_811 : decode cL_law 811 = .ok (.goto 165, 3) := decs_at bne_law2_4 1 (x := (811, .goto 165, 3)) rfl
theorem dL_law_814 : decode cL_law 814 = .ok (.aload_n 1, 1) := decs_at bne_law2_4 2 (x := (814, .aload_n 1, 1)) rfl
theorem dL_law_815 : decode cL_law 815 = .ok (.aload_n 0, 1) := decs_at bne_law2_4 3 (x := (815, .aload_n 0, 1)) rfl
theorem dL_law_816 : decode cL_law 816 = .ok (.iload_n 3, 1) := decs_at bne_law2_4 4 (x := (816, .iload_n 3, 1)) rfl
theorem dL_law_817 : decode cL_law 817 = .ok (.iconst 1, 1) := decs_at bne_law2_4 5 (x := (817, .iconst 1, 1)) rfl
theorem dL_law_818 : decode cL_law 818 = .ok (.iadd, 1) := decs_at bne_law2_4 6 (x := (818, .iadd, 1)) rfl
theorem dL_law_819 : decode cL_law 819 = .ok (.iaload, 1) := decs_at bne_law2_4 7 (x := (819, .iaload, 1)) rfl
theorem dL_law_820 : decode cL_law 820 = .ok (.aload_n 0, 1) := decs_at bne_law2_4 8 (x := (820, .aload_n 0, 1)) rfl
theorem dL_law_821 : decode cL_law 821 = .ok (.iload_n 3, 1) := decs_at bne_law2_4 9 (x := (821, .iload_n 3, 1)) rfl
theorem dL_law_822 : decode cL_law 822 = .ok (.iconst 2, 1) := decs_at bne_law2_4 10 (x := (822, .iconst 2, 1)) rfl
theorem dL_law_823 : decode cL_law 823 = .ok (.iadd, 1) := decs_at bne_law2_4 11 (x := (823, .iadd, 1)) rfl
theorem dL_law_824 : decode cL_law 824 = .ok (.iaload, 1) := decs_at bne_law2_4 12 (x := (824, .iaload, 1)) rfl
theorem dL_law_825 : decode cL_law 825 = .ok (.i2l, 1) := decs_at bne_law2_4 13 (x := (825, .i2l, 1)) rfl
theorem dL_law_826 : decode cL_law 826 = .ok (.bipush 32, 2) := decs_at bne_law2_4 14 (x := (826, .bipush 32, 2)) rfl
theorem dL_law_828 : decode cL_law 828 = .ok (.lshl, 1) := decs_at bne_law2_4 15 (x := (828, .lshl, 1)) rfl
theorem dL_law_829 : decode cL_law 829 = .ok (.aload_n 0, 1) := decs_at bne_law2_4 16 (x := (829, .aload_n 0, 1)) rfl
theorem dL_law_830 : decode cL_law 830 = .ok (.iload_n 3, 1) := decs_at bne_law2_4 17 (x := (830, .iload_n 3, 1)) rfl
theorem dL_law_831 : decode cL_law 831 = .ok (.iconst 3, 1) := decs_at bne_law2_4 18 (x := (831, .iconst 3, 1)) rfl
theorem dL_law_832 : decode cL_law 832 = .ok (.iadd, 1) := decs_at bne_law2_4 19 (x := (832, .iadd, 1)) rfl
theorem dL_law_833 : decode cL_law 833 = .ok (.iaload, 1) := decs_at bne_law2_4 20 (x := (833, .iaload, 1)) rfl
theorem dL_law_834 : decode cL_law 834 = .ok (.i2l, 1) := decs_at bne_law2_4 21 (x := (834, .i2l, 1)) rfl
theorem dL_law_835 : decode cL_law 835 = .ok (.ldc2_w 45, 3) := decs_at bne_law2_4 22 (x := (835, .ldc2_w 45, 3)) rfl
theorem dL_law_838 : decode cL_law 838 = .ok (.land, 1) := decs_at bne_law2_4 23 (x := (838, .land, 1)) rfl
theorem bne_law2_5 : decs cL_law [(839, .lor, 1), (840, .invokevirtual 101, 3), (843, .pop, 1), (844, .aload_n 2, 1), (845, .aload_n 0, 1), (846, .iload_n 3, 1), (847, .iconst 1, 1), (848, .iadd, 1), (849, .iaload, 1), (850, .aload_n 0, 1), (851, .iload_n 3, 1), (852, .iconst 2, 1), (853, .iadd, 1), (854, .iaload, 1), (855, .i2l, 1), (856, .bipush 32, 2), (858, .lshl, 1), (859, .aload_n 0, 1), (860, .iload_n 3, 1), (861, .iconst 3, 1), (862, .iadd, 1), (863, .iaload, 1), (864, .i2l, 1), (865, .ldc2_w 45, 3)] = true := by decide +kernel
theorem dL_law_839 : decode cL_law 839 = .ok (.lor, 1) := decs_at bne_law2_5 0 (x := (839, .lor, 1)) rfl
theorem dL_law_840 : decode cL_law 840 = .ok (.invokevirtual 101, 3) := decs_at bne_law2_5 1 (x := (840, .invokevirtual 101, 3)) rfl
theorem dL_law_843 : decode cL_law 843 = .ok (.pop, 1) := decs_at bne_law2_5 2 (x := (843, .pop, 1)) rfl
theorem dL_law_844 : decode cL_law 844 = .ok (.aload_n 2, 1) := decs_at bne_law2_5 3 (x := (844, .aload_n 2, 1)) rfl
theorem dL_law_845 : decode cL_law 845 = .ok (.aload_n 0, 1) := decs_at bne_law2_5 4 (x := (845, .aload_n 0, 1)) rfl
theorem dL_law_846 : decode cL_law 846 = .ok (.iload_n 3, 1) := decs_at bne_law2_5 5 (x := (846, .iload_n 3, 1)) rfl
theorem dL_law_847 : decode cL_law 847 = .ok (.iconst 1, 1) := decs_at bne_law2_5 6 (x := (847, .iconst 1, 1)) rfl
theorem dL_law_848 : decode cL_law 848 = .ok (.iadd, 1) := decs_at bne_law2_5 7 (x := (848, .iadd, 1)) rfl
theorem dL_law_849 : decode cL_law 849 = .ok (.iaload, 1) := decs_at bne_law2_5 8 (x := (849, .iaload, 1)) rfl
theorem dL_law_850 : decode cL_law 850 = .ok (.aload_n 0, 1) := decs_at bne_law2_5 9 (x := (850, .aload_n 0, 1)) rfl
theorem dL_law_851 : decode cL_law 851 = .ok (.iload_n 3, 1) := decs_at bne_law2_5 10 (x := (851, .iload_n 3, 1)) rfl
theorem dL_law_852 : decode cL_law 852 = .ok (.iconst 2, 1) := decs_at bne_law2_5 11 (x := (852, .iconst 2, 1)) rfl
theorem dL_law_853 : decode cL_law 853 = .ok (.iadd, 1) := decs_at bne_law2_5 12 (x := (853, .iadd, 1)) rfl
theorem dL_law_854 : decode cL_law 854 = .ok (.iaload, 1) := decs_at bne_law2_5 13 (x := (854, .iaload, 1)) rfl
theorem dL_law_855 : decode cL_law 855 = .ok (.i2l, 1) := decs_at bne_law2_5 14 (x := (855, .i2l, 1)) rfl
theorem dL_law_856 : decode cL_law 856 = .ok (.bipush 32, 2) := decs_at bne_law2_5 15 (x := (856, .bipush 32, 2)) rfl
theorem dL_law_858 : decode cL_law 858 = .ok (.lshl, 1) := decs_at bne_law2_5 16 (x := (858, .lshl, 1)) rfl
theorem dL_law_859 : decode cL_law 859 = .ok (.aload_n 0, 1) := decs_at bne_law2_5 17 (x := (859, .aload_n 0, 1)) rfl
theorem dL_law_860 : decode cL_law 860 = .ok (.iload_n 3, 1) := decs_at bne_law2_5 18 (x := (860, .iload_n 3, 1)) rfl
theorem dL_law_861 : decode cL_law 861 = .ok (.iconst 3, 1) := decs_at bne_law2_5 19 (x := (861, .iconst 3, 1)) rfl
theorem dL_law_862 : decode cL_law 862 = .ok (.iadd, 1) := decs_at bne_law2_5 20 (x := (862, .iadd, 1)) rfl
theorem dL_law_863 : decode cL_law 863 = .ok (.iaload, 1) := decs_at bne_law2_5 21 (x := (863, .iaload, 1)) rfl
theorem dL_law_864 : decode cL_law 864 = .ok (.i2l, 1) := decs_at bne_law2_5 22 (x := (864, .i2l, 1)) rfl
theorem dL_law_865 : decode cL_law 865 = .ok (.ldc2_w 45, 3) := decs_at bne_law2_5 23 (x := (865, .ldc2_w 45, 3)) rfl
theorem bne_law2_6 : decs cL_law [(868, .land, 1), (869, .lor, 1), (870, .invokevirtual 105, 3), (873, .pop, 1), (874, .goto 102, 3), (877, .aload_n 1, 1), (878, .aload_n 0, 1), (879, .iload_n 3, 1), (880, .iconst 1, 1), (881, .iadd, 1), (882, .iaload, 1), (883, .invokevirtual 106, 3), (886, .pop, 1), (887, .aload_n 2, 1), (888, .aload_n 0, 1), (889, .iload_n 3, 1), (890, .iconst 1, 1), (891, .iadd, 1), (892, .iaload, 1), (893, .invokevirtual 109, 3), (896, .pop, 1), (897, .goto 79, 3), (900, .aload_n 1, 1), (901, .aload_n 0, 1)] = true := by decide +kernel
theorem dL_law_868 : decode cL_law 868 = .ok (.land, 1) := decs_at bne_law2_6 0 (x := (868, .land, 1)) rfl
theorem dL_law_869 : decode cL_law 869 = .ok (.lor, 1) := decs_at bne_law2_6 1 (x := (869, .lor, 1)) rfl
theorem dL_law_870 : decode cL_law 870 = .ok (.invokevirtual 105, 3) := decs_at bne_law2_6 2 (x := (870, .invokevirtual 105, 3)) rfl
theorem dL_law_873 : decode cL_law 873 = .ok (.pop, 1) := decs_at bne_law2_6 3 (x := (873, .pop, 1)) rfl
theorem dL_law_874 : decode cL_law 874 = .ok (.goto 102, 3) := decs_at bne_law2_6 4 (x := (874, .goto 102, 3)) rfl
theorem dL_law_877 : decode cL_law 877 = .ok (.aload_n 1, 1) := decs_at bne_law2_6 5 (x := (877, .aload_n 1, 1)) rfl
theorem dL_law_878 : decode cL_law 878 = .ok (.aload_n 0, 1) := decs_at bne_law2_6 6 (x := (878, .aload_n 0, 1)) rfl
theorem dL_law_879 : decode cL_law 879 = .ok (.iload_n 3, 1) := decs_at bne_law2_6 7 (x := (879, .iload_n 3, 1)) rfl
theorem dL_law_880 : decode cL_law 880 = .ok (.iconst 1, 1) := decs_at bne_law2_6 8 (x := (880, .iconst 1, 1)) rfl
theorem dL_law_881 : decode cL_law 881 = .ok (.iadd, 1) := decs_at bne_law2_6 9 (x := (881, .iadd, 1)) rfl
theorem dL_law_882 : decode cL_law 882 = .ok (.iaload, 1) := decs_at bne_law2_6 10 (x := (882, .iaload, 1)) rfl
theorem dL_law_883 : decode cL_law 883 = .ok (.invokevirtual 106, 3) := decs_at bne_law2_6 11 (x := (883, .invokevirtual 106, 3)) rfl
theorem dL_law_886 : decode cL_law 886 = .ok (.pop, 1) := decs_at bne_law2_6 12 (x := (886, .pop, 1)) rfl
theorem dL_law_887 : decode cL_law 887 = .ok (.aload_n 2, 1) := decs_at bne_law2_6 13 (x := (887, .aload_n 2, 1)) rfl
theorem dL_law_888 : decode cL_law 888 = .ok (.aload_n 0, 1) := decs_at bne_law2_6 14 (x := (888, .aload_n 0, 1)) rfl
theorem dL_law_889 : decode cL_law 889 = .ok (.iload_n 3, 1) := decs_at bne_law2_6 15 (x := (889, .iload_n 3, 1)) rfl
theorem dL_law_890 : decode cL_law 890 = .ok (.iconst 1, 1) := decs_at bne_law2_6 16 (x := (890, .iconst 1, 1)) rfl
theorem dL_law_891 : decode cL_law 891 = .ok (.iadd, 1) := decs_at bne_law2_6 17 (x := (891, .iadd, 1)) rfl
theorem dL_law_892 : decode cL_law 892 = .ok (.iaload, 1) := decs_at bne_law2_6 18 (x := (892, .iaload, 1)) rfl
theorem dL_law_893 : decode cL_law 893 = .ok (.invokevirtual 109, 3) := decs_at bne_law2_6 19 (x := (893, .invokevirtual 109, 3)) rfl
theorem dL_law_896 : decode cL_law 896 = .ok (.pop, 1) := decs_at bne_law2_6 20 (x := (896, .pop, 1)) rfl
theorem dL_law_897 : decode cL_law 897 = .ok (.goto 79, 3) := decs_at bne_law2_6 21 (x := (897, .goto 79, 3)) rfl
theorem dL_law_900 : decode cL_law 900 = .ok (.aload_n 1, 1) := decs_at bne_law2_6 22 (x := (900, .aload_n 1, 1)) rfl
theorem dL_law_901 : decode cL_law 901 = .ok (.aload_n 0, 1) := decs_at bne_law2_6 23 (x := (901, .aload_n 0, 1)) rfl
theorem bne_law2_7 : decs cL_law [(902, .iload_n 3, 1), (903, .iconst 1, 1), (904, .iadd, 1), (905, .iaload, 1), (906, .aload_n 0, 1), (907, .iload_n 3, 1), (908, .iconst 2, 1), (909, .iadd, 1), (910, .iaload, 1), (911, .invokevirtual 110, 3), (914, .pop, 1), (915, .aload_n 2, 1), (916, .aload_n 0, 1), (917, .iload_n 3, 1), (918, .iconst 1, 1), (919, .iadd, 1), (920, .iaload, 1), (921, .aload_n 0, 1), (922, .iload_n 3, 1), (923, .iconst 2, 1), (924, .iadd, 1), (925, .iaload, 1), (926, .invokevirtual 113, 3), (929, .pop, 1)] = true := by decide +kernel
theorem dL_law_902 : decode cL_law 902 = .ok (.iload_n 3, 1) := decs_at bne_law2_7 0 (x := (902, .iload_n 3, 1)) rfl
theorem dL_law_903 : decode cL_law 903 = .ok (.iconst 1, 1) := decs_at bne_law2_7 1 (x := (903, .iconst 1, 1)) rfl
theorem dL_law_904 : decode cL_law 904 = .ok (.iadd, 1) := decs_at bne_law2_7 2 (x := (904, .iadd, 1)) rfl
theorem dL_law_905 : decode cL_law 905 = .ok (.iaload, 1) := decs_at bne_law2_7 3 (x := (905, .iaload, 1)) rfl
theorem dL_law_906 : decode cL_law 906 = .ok (.aload_n 0, 1) := decs_at bne_law2_7 4 (x := (906, .aload_n 0, 1)) rfl
theorem dL_law_907 : decode cL_law 907 = .ok (.iload_n 3, 1) := decs_at bne_law2_7 5 (x := (907, .iload_n 3, 1)) rfl
theorem dL_law_908 : decode cL_law 908 = .ok (.iconst 2, 1) := decs_at bne_law2_7 6 (x := (908, .iconst 2, 1)) rfl
theorem dL_law_909 : decode cL_law 909 = .ok (.iadd, 1) := decs_at bne_law2_7 7 (x := (909, .iadd, 1)) rfl
theorem dL_law_910 : decode cL_law 910 = .ok (.iaload, 1) := decs_at bne_law2_7 8 (x := (910, .iaload, 1)) rfl
theorem dL_law_911 : decode cL_law 911 = .ok (.invokevirtual 110, 3) := decs_at bne_law2_7 9 (x := (911, .invokevirtual 110, 3)) rfl
theorem dL_law_914 : decode cL_law 914 = .ok (.pop, 1) := decs_at bne_law2_7 10 (x := (914, .pop, 1)) rfl
theorem dL_law_915 : decode cL_law 915 = .ok (.aload_n 2, 1) := decs_at bne_law2_7 11 (x := (915, .aload_n 2, 1)) rfl
theorem dL_law_916 : decode cL_law 916 = .ok (.aload_n 0, 1) := decs_at bne_law2_7 12 (x := (916, .aload_n 0, 1)) rfl
theorem dL_law_917 : decode cL_law 917 = .ok (.iload_n 3, 1) := decs_at bne_law2_7 13 (x := (917, .iload_n 3, 1)) rfl
theorem dL_law_918 : decode cL_law 918 = .ok (.iconst 1, 1) := decs_at bne_law2_7 14 (x := (918, .iconst 1, 1)) rfl
theorem dL_law_919 : decode cL_law 919 = .ok (.iadd, 1) := decs_at bne_law2_7 15 (x := (919, .iadd, 1)) rfl
theorem dL_law_920 : decode cL_law 920 = .ok (.iaload, 1) := decs_at bne_law2_7 16 (x := (920, .iaload, 1)) rfl
theorem dL_law_921 : decode cL_law 921 = .ok (.aload_n 0, 1) := decs_at bne_law2_7 17 (x := (921, .aload_n 0, 1)) rfl
theorem dL_law_922 : decode cL_law 922 = .ok (.iload_n 3, 1) := decs_at bne_law2_7 18 (x := (922, .iload_n 3, 1)) rfl
theorem dL_law_923 : decode cL_law 923 = .ok (.iconst 2, 1) := decs_at bne_law2_7 19 (x := (923, .iconst 2, 1)) rfl
theorem dL_law_924 : decode cL_law 924 = .ok (.iadd, 1) := decs_at bne_law2_7 20 (x := (924, .iadd, 1)) rfl
theorem dL_law_925 : decode cL_law 925 = .ok (.iaload, 1) := decs_at bne_law2_7 21 (x := (925, .iaload, 1)) rfl
theorem dL_law_926 : decode cL_law 926 = .ok (.invokevirtual 113, 3) := decs_at bne_law2_7 22 (x := (926, .invokevirtual 113, 3)) rfl
theorem dL_law_929 : decode cL_law 929 = .ok (.pop, 1) := decs_at bne_law2_7 23 (x := (929, .pop, 1)) rfl
theorem bne_law2_8 : decs cL_law [(930, .goto 46, 3), (933, .aload_n 1, 1), (934, .aload_n 0, 1), (935, .iload_n 3, 1), (936, .iconst 1, 1), (937, .iadd, 1), (938, .iaload, 1), (939, .aload_n 0, 1), (940, .iload_n 3, 1), (941, .iconst 2, 1), (942, .iadd, 1), (943, .iaload, 1), (944, .aload_n 0, 1), (945, .iload_n 3, 1), (946, .iconst 3, 1), (947, .iadd, 1), (948, .iaload, 1), (949, .invokevirtual 114, 3), (952, .aload_n 2, 1), (953, .aload_n 0, 1), (954, .iload_n 3, 1), (955, .iconst 1, 1), (956, .iadd, 1), (957, .iaload, 1)] = true := by decide +kernel
theorem dL_law_930 : decode cL_law 930 = .ok (.goto 46, 3) := decs_at bne_law2_8 0 (x := (930, .goto 46, 3)) rfl
theorem dL_law_933 : decode cL_law 933 = .ok (.aload_n 1, 1) := decs_at bne_law2_8 1 (x := (933, .aload_n 1, 1)) rfl
theorem dL_law_934 : decode cL_law 934 = .ok (.aload_n 0, 1) := decs_at bne_law2_8 2 (x := (934, .aload_n 0, 1)) rfl
theorem dL_law_935 : decode cL_law 935 = .ok (.iload_n 3, 1) := decs_at bne_law2_8 3 (x := (935, .iload_n 3, 1)) rfl
theorem dL_law_936 : decode cL_law 936 = .ok (.iconst 1, 1) := decs_at bne_law2_8 4 (x := (936, .iconst 1, 1)) rfl
theorem dL_law_937 : decode cL_law 937 = .ok (.iadd, 1) := decs_at bne_law2_8 5 (x := (937, .iadd, 1)) rfl
theorem dL_law_938 : decode cL_law 938 = .ok (.iaload, 1) := decs_at bne_law2_8 6 (x := (938, .iaload, 1)) rfl
theorem dL_law_939 : decode cL_law 939 = .ok (.aload_n 0, 1) := decs_at bne_law2_8 7 (x := (939, .aload_n 0, 1)) rfl
theorem dL_law_940 : decode cL_law 940 = .ok (.iload_n 3, 1) := decs_at bne_law2_8 8 (x := (940, .iload_n 3, 1)) rfl
theorem dL_law_941 : decode cL_law 941 = .ok (.iconst 2, 1) := decs_at bne_law2_8 9 (x := (941, .iconst 2, 1)) rfl
theorem dL_law_942 : decode cL_law 942 = .ok (.iadd, 1) := decs_at bne_law2_8 10 (x := (942, .iadd, 1)) rfl
theorem dL_law_943 : decode cL_law 943 = .ok (.iaload, 1) := decs_at bne_law2_8 11 (x := (943, .iaload, 1)) rfl
theorem dL_law_944 : decode cL_law 944 = .ok (.aload_n 0, 1) := decs_at bne_law2_8 12 (x := (944, .aload_n 0, 1)) rfl
theorem dL_law_945 : decode cL_law 945 = .ok (.iload_n 3, 1) := decs_at bne_law2_8 13 (x := (945, .iload_n 3, 1)) rfl
theorem dL_law_946 : decode cL_law 946 = .ok (.iconst 3, 1) := decs_at bne_law2_8 14 (x := (946, .iconst 3, 1)) rfl
theorem dL_law_947 : decode cL_law 947 = .ok (.iadd, 1) := decs_at bne_law2_8 15 (x := (947, .iadd, 1)) rfl
theorem dL_law_948 : decode cL_law 948 = .ok (.iaload, 1) := decs_at bne_law2_8 16 (x := (948, .iaload, 1)) rfl
theorem dL_law_949 : decode cL_law 949 = .ok (.invokevirtual 114, 3) := decs_at bne_law2_8 17 (x := (949, .invokevirtual 114, 3)) rfl
theorem dL_law_952 : decode cL_law 952 = .ok (.aload_n 2, 1) := decs_at bne_law2_8 18 (x := (952, .aload_n 2, 1)) rfl
theorem dL_law_953 : decode cL_law 953 = .ok (.aload_n 0, 1) := decs_at bne_law2_8 19 (x := (953, .aload_n 0, 1)) rfl
theorem dL_law_954 : decode cL_law 954 = .ok (.iload_n 3, 1) := decs_at bne_law2_8 20 (x := (954, .iload_n 3, 1)) rfl
theorem dL_law_955 : decode cL_law 955 = .ok (.iconst 1, 1) := decs_at bne_law2_8 21 (x := (955, .iconst 1, 1)) rfl
theorem dL_law_956 : decode cL_law 956 = .ok (.iadd, 1) := decs_at bne_law2_8 22 (x := (956, .iadd, 1)) rfl
theorem dL_law_957 : decode cL_law 957 = .ok (.iaload, 1) := decs_at bne_law2_8 23 (x := (957, .iaload, 1)) rfl
theorem bne_law2_9 : decs cL_law [(958, .aload_n 0, 1), (959, .iload_n 3, 1), (960, .iconst 2, 1), (961, .iadd, 1), (962, .iaload, 1), (963, .aload_n 0, 1), (964, .iload_n 3, 1), (965, .iconst 3, 1), (966, .iadd, 1), (967, .iaload, 1), (968, .invokevirtual 117, 3), (971, .if_icmp .eq 5, 3), (974, .iconst 0, 1), (975, .ireturn, 1), (976, .iinc 3 5, 3), (979, .goto (-961), 3), (982, .iconst 1, 1), (983, .ireturn, 1)] = true := by decide +kernel
theorem dL_law_958 : decode cL_law 958 = .ok (.aload_n 0, 1) := decs_at bne_law2_9 0 (x := (958, .aload_n 0, 1)) rfl
theorem dL_law_959 : decode cL_law 959 = .ok (.iload_n 3, 1) := decs_at bne_law2_9 1 (x := (959, .iload_n 3, 1)) rfl
theorem dL_law_960 : decode cL_law 960 = .ok (.iconst 2, 1) := decs_at bne_law2_9 2 (x := (960, .iconst 2, 1)) rfl
theorem dL_law_961 : decode cL_law 961 = .ok (.iadd, 1) := decs_at bne_law2_9 3 (x := (961, .iadd, 1)) rfl
theorem dL_law_962 : decode cL_law 962 = .ok (.iaload, 1) := decs_at bne_law2_9 4 (x := (962, .iaload, 1)) rfl
theorem dL_law_963 : decode cL_law 963 = .ok (.aload_n 0, 1) := decs_at bne_law2_9 5 (x := (963, .aload_n 0, 1)) rfl
theorem dL_law_964 : decode cL_law 964 = .ok (.iload_n 3, 1) := decs_at bne_law2_9 6 (x := (964, .iload_n 3, 1)) rfl
theorem dL_law_965 : decode cL_law 965 = .ok (.iconst 3, 1) := decs_at bne_law2_9 7 (x := (965, .iconst 3, 1)) rfl
theorem dL_law_966 : decode cL_law 966 = .ok (.iadd, 1) := decs_at bne_law2_9 8 (x := (966, .iadd, 1)) rfl
theorem dL_law_967 : decode cL_law 967 = .ok (.iaload, 1) := decs_at bne_law2_9 9 (x := (967, .iaload, 1)) rfl
theorem dL_law_968 : decode cL_law 968 = .ok (.invokevirtual 117, 3) := decs_at bne_law2_9 10 (x := (968, .invokevirtual 117, 3)) rfl
theorem dL_law_971 : decode cL_law 971 = .ok (.if_icmp .eq 5, 3) := decs_at bne_law2_9 11 (x := (971, .if_icmp .eq 5, 3)) rfl
theorem dL_law_974 : decode cL_law 974 = .ok (.iconst 0, 1) := decs_at bne_law2_9 12 (x := (974, .iconst 0, 1)) rfl
theorem dL_law_975 : decode cL_law 975 = .ok (.ireturn, 1) := decs_at bne_law2_9 13 (x := (975, .ireturn, 1)) rfl
theorem dL_law_976 : decode cL_law 976 = .ok (.iinc 3 5, 3) := decs_at bne_law2_9 14 (x := (976, .iinc 3 5, 3)) rfl
theorem dL_law_979 : decode cL_law 979 = .ok (.goto (-961), 3) := decs_at bne_law2_9 15 (x := (979, .goto (-961), 3)) rfl
theorem dL_law_982 : decode cL_law 982 = .ok (.iconst 1, 1) := decs_at bne_law2_9 16 (x := (982, .iconst 1, 1)) rfl
theorem dL_law_983 : decode cL_law 983 = .ok (.ireturn, 1) := decs_at bne_law2_9 17 (x := (983, .ireturn, 1)) rfl
abbrev vwCl : List vw_C := [(RX0, TX0, 4), (RX1, TX1, 6), (RX2, TX2, 9), (RX3, TX3, 23)]
