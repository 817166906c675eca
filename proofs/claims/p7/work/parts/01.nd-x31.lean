theorem dX3_link_0 : decode cX3_link 0 = .ok (.iload_n 1, 1) := by decide +kernel
theorem dX3_link_1 : decode cX3_link 1 = .ok (.invokestatic 84, 3) := by decide +kernel
theorem dX3_link_4 : decode cX3_link 4 = .ok (.ifCond .eq 17, 3) := by decide +kernel
theorem dX3_link_7 : decode cX3_link 7 = .ok (.iload_n 2, 1) := by decide +kernel
theorem dX3_link_8 : decode cX3_link 8 = .ok (.invokestatic 74, 3) := by decide +kernel
theorem dX3_link_11 : decode cX3_link 11 = .ok (.ifCond .eq 10, 3) := by decide +kernel
theorem dX3_link_14 : decode cX3_link 14 = .ok (.iload_n 3, 1) := by decide +kernel
theorem dX3_link_15 : decode cX3_link 15 = .ok (.invokestatic 84, 3) := by decide +kernel
theorem dX3_link_18 : decode cX3_link 18 = .ok (.ifCond .ne 5, 3) := by decide +kernel
theorem dX3_link_21 : decode cX3_link 21 = .ok (.iconst (-1), 1) := by decide +kernel
theorem dX3_link_22 : decode cX3_link 22 = .ok (.ireturn, 1) := by decide +kernel
theorem dX3_link_23 : decode cX3_link 23 = .ok (.aload_n 0, 1) := by decide +kernel
theorem dX3_link_24 : decode cX3_link 24 = .ok (.iload_n 1, 1) := by decide +kernel
theorem dX3_link_25 : decode cX3_link 25 = .ok (.iload_n 2, 1) := by decide +kernel
theorem dX3_link_26 : decode cX3_link 26 = .ok (.invokevirtual 126, 3) := by decide +kernel
theorem dX3_link_29 : decode cX3_link 29 = .ok (.ifCond .ne 31, 3) := by decide +kernel
theorem dX3_link_32 : decode cX3_link 32 = .ok (.aload_n 0, 1) := by decide +kernel
theorem dX3_link_33 : decode cX3_link 33 = .ok (.getfield 7, 3) := by decide +kernel
theorem dX3_link_36 : decode cX3_link 36 = .ok (.iload_n 3, 1) := by decide +kernel
theorem dX3_link_37 : decode cX3_link 37 = .ok (.iaload, 1) := by decide +kernel
theorem dX3_link_38 : decode cX3_link 38 = .ok (.iconst (-1), 1) := by decide +kernel
theorem dX3_link_39 : decode cX3_link 39 = .ok (.if_icmp .eq 24, 3) := by decide +kernel
theorem dX3_link_42 : decode cX3_link 42 = .ok (.aload_n 0, 1) := by decide +kernel
theorem dX3_link_43 : decode cX3_link 43 = .ok (.getfield 13, 3) := by decide +kernel
theorem dX3_link_46 : decode cX3_link 46 = .ok (.aload_n 0, 1) := by decide +kernel
theorem dX3_link_47 : decode cX3_link 47 = .ok (.getfield 7, 3) := by decide +kernel
theorem dX3_link_50 : decode cX3_link 50 = .ok (.iload_n 3, 1) := by decide +kernel
theorem dX3_link_51 : decode cX3_link 51 = .ok (.iaload, 1) := by decide +kernel
theorem dX3_link_52 : decode cX3_link 52 = .ok (.iaload, 1) := by decide +kernel
theorem dX3_link_53 : decode cX3_link 53 = .ok (.iload_n 2, 1) := by decide +kernel
theorem dX3_link_54 : decode cX3_link 54 = .ok (.invokestatic 135, 3) := by decide +kernel
theorem dX3_link_57 : decode cX3_link 57 = .ok (.ifCond .ne 6, 3) := by decide +kernel
theorem dX3_link_60 : decode cX3_link 60 = .ok (.bipush (-14), 2) := by decide +kernel
theorem dX3_link_62 : decode cX3_link 62 = .ok (.ireturn, 1) := by decide +kernel
theorem dX3_link_63 : decode cX3_link 63 = .ok (.aload_n 0, 1) := by decide +kernel
theorem dX3_link_64 : decode cX3_link 64 = .ok (.getfield 7, 3) := by decide +kernel
theorem dX3_link_67 : decode cX3_link 67 = .ok (.iload_n 1, 1) := by decide +kernel
theorem dX3_link_68 : decode cX3_link 68 = .ok (.iaload, 1) := by decide +kernel
theorem dX3_link_69 : decode cX3_link 69 = .ok (.iconst (-1), 1) := by decide +kernel
theorem dX3_link_70 : decode cX3_link 70 = .ok (.if_icmp .ne 6, 3) := by decide +kernel
theorem dX3_link_73 : decode cX3_link 73 = .ok (.bipush (-11), 2) := by decide +kernel
theorem dX3_link_75 : decode cX3_link 75 = .ok (.ireturn, 1) := by decide +kernel
theorem dX3_link_76 : decode cX3_link 76 = .ok (.aload_n 0, 1) := by decide +kernel
theorem dX3_link_77 : decode cX3_link 77 = .ok (.getfield 17, 3) := by decide +kernel
theorem dX3_link_80 : decode cX3_link 80 = .ok (.bipush 17, 2) := by decide +kernel
theorem dX3_link_82 : decode cX3_link 82 = .ok (.aload_n 0, 1) := by decide +kernel
theorem dX3_link_83 : decode cX3_link 83 = .ok (.getfield 7, 3) := by decide +kernel
theorem dX3_link_86 : decode cX3_link 86 = .ok (.iload_n 1, 1) := by decide +kernel
theorem dX3_link_87 : decode cX3_link 87 = .ok (.iaload, 1) := by decide +kernel
theorem dX3_link_88 : decode cX3_link 88 = .ok (.imul, 1) := by decide +kernel
theorem dX3_link_89 : decode cX3_link 89 = .ok (.iload_n 2, 1) := by decide +kernel
theorem dX3_link_90 : decode cX3_link 90 = .ok (.iadd, 1) := by decide +kernel
theorem dX3_link_91 : decode cX3_link 91 = .ok (.aload_n 0, 1) := by decide +kernel
theorem dX3_link_92 : decode cX3_link 92 = .ok (.getfield 7, 3) := by decide +kernel
theorem dX3_link_95 : decode cX3_link 95 = .ok (.iload_n 3, 1) := by decide +kernel
theorem dX3_link_96 : decode cX3_link 96 = .ok (.iaload, 1) := by decide +kernel
theorem dX3_link_97 : decode cX3_link 97 = .ok (.i2l, 1) := by decide +kernel
theorem dX3_link_98 : decode cX3_link 98 = .ok (.lastore, 1) := by decide +kernel
theorem dX3_link_99 : decode cX3_link 99 = .ok (.iconst 1, 1) := by decide +kernel
theorem dX3_link_100 : decode cX3_link 100 = .ok (.ireturn, 1) := by decide +kernel
set_option maxRecDepth 20000 in
theorem ggX3_follow_X3_isSlot : GoodIn wsX3_follow wsX3_isSlot := goodIn_r _ [6, 7, 8, 9, 5, 10] rfl (by decide +kernel)
set_option maxRecDepth 20000 in
theorem gX3_follow_X3_isSlot : GoodIn wsX3_follow (va_wsS RX3 84 yX3_isSlot wsX3_isSlot) := goodIn_app (goodIn_r _ [3, 4, 5] rfl (by decide +kernel)) ggX3_follow_X3_isSlot
set_option maxRecDepth 20000 in
theorem ggX3_follow_X3_isLink : GoodIn wsX3_follow wsX3_isLink := goodIn_r _ [13] rfl (by decide +kernel)
set_option maxRecDepth 20000 in
theorem gX3_follow_X3_isLink : GoodIn wsX3_follow (va_wsS RX3 74 yX3_isLink wsX3_isLink) := goodIn_app (goodIn_r _ [11, 12, 5] rfl (by decide +kernel)) ggX3_follow_X3_isLink
set_option maxRecDepth 20000 in
theorem ggX3_follow_X3_isOther : GoodIn wsX3_follow wsX3_isOther := goodIn_r _ [17, 1, 18, 19, 20, 5, 21, 22, 23, 24, 25, 26, 27, 28, 29, 30, 31, 32, 33, 34, 35, 36, 37, 38, 39, 40, 41, 42, 43, 44] rfl (by decide +kernel)
set_option maxRecDepth 20000 in
theorem gX3_follow_X3_isOther : GoodIn wsX3_follow (wsV RX3 126 RX3 yX3_isOther wsX3_isOther) := goodIn_app (goodIn_r _ [14, 15, 16, 5] rfl (by decide +kernel)) ggX3_follow_X3_isOther
theorem dX3_follow_0 : decode cX3_follow 0 = .ok (.iload_n 1, 1) := by decide +kernel
theorem dX3_follow_1 : decode cX3_follow 1 = .ok (.invokestatic 84, 3) := by decide +kernel
theorem dX3_follow_4 : decode cX3_follow 4 = .ok (.ifCond .eq 17, 3) := by decide +kernel
theorem dX3_follow_7 : decode cX3_follow 7 = .ok (.iload_n 2, 1) := by decide +kernel
theorem dX3_follow_8 : decode cX3_follow 8 = .ok (.invokestatic 74, 3) := by decide +kernel
theorem dX3_follow_11 : decode cX3_follow 11 = .ok (.ifCond .eq 10, 3) := by decide +kernel
theorem dX3_follow_14 : decode cX3_follow 14 = .ok (.iload_n 3, 1) := by decide +kernel
theorem dX3_follow_15 : decode cX3_follow 15 = .ok (.invokestatic 84, 3) := by decide +kernel
theorem dX3_follow_18 : decode cX3_follow 18 = .ok (.ifCond .ne 5, 3) := by decide +kernel
theorem dX3_follow_21 : decode cX3_follow 21 = .ok (.iconst (-1), 1) := by decide +kernel
theorem dX3_follow_22 : decode cX3_follow 22 = .ok (.ireturn, 1) := by decide +kernel
theorem dX3_follow_23 : decode cX3_follow 23 = .ok (.aload_n 0, 1) := by decide +kernel
theorem dX3_follow_24 : decode cX3_follow 24 = .ok (.getfield 7, 3) := by decide +kernel
theorem dX3_follow_27 : decode cX3_follow 27 = .ok (.iload_n 1, 1) := by decide +kernel
theorem dX3_follow_28 : decode cX3_follow 28 = .ok (.iaload, 1) := by decide +kernel
theorem dX3_follow_29 : decode cX3_follow 29 = .ok (.iconst (-1), 1) := by decide +kernel
theorem dX3_follow_30 : decode cX3_follow 30 = .ok (.if_icmp .eq 12, 3) := by decide +kernel
theorem dX3_follow_33 : decode cX3_follow 33 = .ok (.aload_n 0, 1) := by decide +kernel
theorem dX3_follow_34 : decode cX3_follow 34 = .ok (.iload_n 1, 1) := by decide +kernel
theorem dX3_follow_35 : decode cX3_follow 35 = .ok (.iload_n 2, 1) := by decide +kernel
theorem dX3_follow_36 : decode cX3_follow 36 = .ok (.invokevirtual 126, 3) := by decide +kernel
theorem dX3_follow_39 : decode cX3_follow 39 = .ok (.ifCond .eq 21, 3) := by decide +kernel
theorem dX3_follow_42 : decode cX3_follow 42 = .ok (.aload_n 0, 1) := by decide +kernel
theorem dX3_follow_43 : decode cX3_follow 43 = .ok (.getfield 7, 3) := by decide +kernel
theorem dX3_follow_46 : decode cX3_follow 46 = .ok (.iload_n 1, 1) := by decide +kernel
theorem dX3_follow_47 : decode cX3_follow 47 = .ok (.iaload, 1) := by decide +kernel
theorem dX3_follow_48 : decode cX3_follow 48 = .ok (.iconst (-1), 1) := by decide +kernel
theorem dX3_follow_49 : decode cX3_follow 49 = .ok (.if_icmp .ne 8, 3) := by decide +kernel
theorem dX3_follow_52 : decode cX3_follow 52 = .ok (.bipush (-11), 2) := by decide +kernel
theorem dX3_follow_54 : decode cX3_follow 54 = .ok (.goto 5, 3) := by decide +kernel
theorem dX3_follow_57 : decode cX3_follow 57 = .ok (.bipush (-14), 2) := by decide +kernel
theorem dX3_follow_59 : decode cX3_follow 59 = .ok (.ireturn, 1) := by decide +kernel
theorem dX3_follow_60 : decode cX3_follow 60 = .ok (.aload_n 0, 1) := by decide +kernel
theorem dX3_follow_61 : decode cX3_follow 61 = .ok (.getfield 7, 3) := by decide +kernel
theorem dX3_follow_64 : decode cX3_follow 64 = .ok (.iload_n 3, 1) := by decide +kernel
theorem dX3_follow_65 : decode cX3_follow 65 = .ok (.aload_n 0, 1) := by decide +kernel
theorem dX3_follow_66 : decode cX3_follow 66 = .ok (.getfield 17, 3) := by decide +kernel
theorem dX3_follow_69 : decode cX3_follow 69 = .ok (.bipush 17, 2) := by decide +kernel
theorem dX3_follow_71 : decode cX3_follow 71 = .ok (.aload_n 0, 1) := by decide +kernel
theorem dX3_follow_72 : decode cX3_follow 72 = .ok (.getfield 7, 3) := by decide +kernel
theorem dX3_follow_75 : decode cX3_follow 75 = .ok (.iload_n 1, 1) := by decide +kernel
theorem dX3_follow_76 : decode cX3_follow 76 = .ok (.iaload, 1) := by decide +kernel
theorem dX3_follow_77 : decode cX3_follow 77 = .ok (.imul, 1) := by decide +kernel
theorem dX3_follow_78 : decode cX3_follow 78 = .ok (.iload_n 2, 1) := by decide +kernel
theorem dX3_follow_79 : decode cX3_follow 79 = .ok (.iadd, 1) := by decide +kernel
theorem dX3_follow_80 : decode cX3_follow 80 = .ok (.laload, 1) := by decide +kernel
theorem dX3_follow_81 : decode cX3_follow 81 = .ok (.l2i, 1) := by decide +kernel
theorem dX3_follow_82 : decode cX3_follow 82 = .ok (.iastore, 1) := by decide +kernel
theorem dX3_follow_83 : decode cX3_follow 83 = .ok (.iconst 1, 1) := by decide +kernel
theorem dX3_follow_84 : decode cX3_follow 84 = .ok (.ireturn, 1) := by decide +kernel
set_option maxRecDepth 20000 in
theorem ggX3_row_X3_isSlot : GoodIn wsX3_row wsX3_isSlot := goodIn_r _ [7, 8, 9, 10, 6, 11] rfl (by decide +kernel)
set_option maxRecDepth 20000 in
theorem gX3_row_X3_isSlot : GoodIn wsX3_row (va_wsS RX3 84 yX3_isSlot wsX3_isSlot) := goodIn_app (goodIn_r _ [4, 5, 6] rfl (by decide +kernel)) ggX3_row_X3_isSlot
set_option maxRecDepth 20000 in
theorem ggX3_row_X3_isOther : GoodIn wsX3_row wsX3_isOther := goodIn_r _ [15, 1, 16, 17, 18, 6, 19, 20, 21, 22, 23, 24, 25, 26, 27, 28, 29, 30, 31, 32, 33, 34, 35, 36, 37, 38, 39, 40, 41, 42] rfl (by decide +kernel)
set_option maxRecDepth 20000 in
theorem gX3_row_X3_isOther : GoodIn wsX3_row (wsV RX3 126 RX3 yX3_isOther wsX3_isOther) := goodIn_app (goodIn_r _ [12, 13, 14, 6] rfl (by decide +kernel)) ggX3_row_X3_isOther
theorem dX3_row_0 : decode cX3_row 0 = .ok (.iload_n 1, 1) := by decide +kernel
theorem dX3_row_1 : decode cX3_row 1 = .ok (.invokestatic 84, 3) := by decide +kernel
theorem dX3_row_4 : decode cX3_row 4 = .ok (.ifCond .eq 9, 3) := by decide +kernel
theorem dX3_row_7 : decode cX3_row 7 = .ok (.iload_n 2, 1) := by decide +kernel
theorem dX3_row_8 : decode cX3_row 8 = .ok (.bipush 20, 2) := by decide +kernel
theorem dX3_row_10 : decode cX3_row 10 = .ok (.if_icmp .le 5, 3) := by decide +kernel
theorem dX3_row_13 : decode cX3_row 13 = .ok (.iconst (-1), 1) := by decide +kernel
theorem dX3_row_14 : decode cX3_row 14 = .ok (.ireturn, 1) := by decide +kernel
theorem dX3_row_15 : decode cX3_row 15 = .ok (.aload_n 0, 1) := by decide +kernel
theorem dX3_row_16 : decode cX3_row 16 = .ok (.iload_n 1, 1) := by decide +kernel
theorem dX3_row_17 : decode cX3_row 17 = .ok (.bipush 9, 2) := by decide +kernel
theorem dX3_row_19 : decode cX3_row 19 = .ok (.invokevirtual 126, 3) := by decide +kernel
theorem dX3_row_22 : decode cX3_row 22 = .ok (.ifCond .eq 6, 3) := by decide +kernel
theorem dX3_row_25 : decode cX3_row 25 = .ok (.bipush (-14), 2) := by decide +kernel
theorem dX3_row_27 : decode cX3_row 27 = .ok (.ireturn, 1) := by decide +kernel
theorem dX3_row_28 : decode cX3_row 28 = .ok (.iload_n 2, 1) := by decide +kernel
theorem dX3_row_29 : decode cX3_row 29 = .ok (.ifCond .ge 12, 3) := by decide +kernel
theorem dX3_row_32 : decode cX3_row 32 = .ok (.iload_n 2, 1) := by decide +kernel
theorem dX3_row_33 : decode cX3_row 33 = .ok (.bipush (-4), 2) := by decide +kernel
theorem dX3_row_35 : decode cX3_row 35 = .ok (.if_icmp .eq 6, 3) := by decide +kernel
theorem dX3_row_38 : decode cX3_row 38 = .ok (.bipush (-13), 2) := by decide +kernel
theorem dX3_row_40 : decode cX3_row 40 = .ok (.ireturn, 1) := by decide +kernel
theorem dX3_row_41 : decode cX3_row 41 = .ok (.aload_n 0, 1) := by decide +kernel
theorem dX3_row_42 : decode cX3_row 42 = .ok (.getfield 7, 3) := by decide +kernel
theorem dX3_row_45 : decode cX3_row 45 = .ok (.iload_n 1, 1) := by decide +kernel
theorem dX3_row_46 : decode cX3_row 46 = .ok (.iaload, 1) := by decide +kernel
theorem dX3_row_47 : decode cX3_row 47 = .ok (.iconst (-1), 1) := by decide +kernel
theorem dX3_row_48 : decode cX3_row 48 = .ok (.if_icmp .ne 6, 3) := by decide +kernel
theorem dX3_row_51 : decode cX3_row 51 = .ok (.bipush (-11), 2) := by decide +kernel
theorem dX3_row_53 : decode cX3_row 53 = .ok (.ireturn, 1) := by decide +kernel
theorem dX3_row_54 : decode cX3_row 54 = .ok (.aload_n 0, 1) := by decide +kernel
theorem dX3_row_55 : decode cX3_row 55 = .ok (.getfield 21, 3) := by decide +kernel
theorem dX3_row_58 : decode cX3_row 58 = .ok (.aload_n 0, 1) := by decide +kernel
theorem dX3_row_59 : decode cX3_row 59 = .ok (.getfield 7, 3) := by decide +kernel
theorem dX3_row_62 : decode cX3_row 62 = .ok (.iload_n 1, 1) := by decide +kernel
theorem dX3_row_63 : decode cX3_row 63 = .ok (.iaload, 1) := by decide +kernel
theorem dX3_row_64 : decode cX3_row 64 = .ok (.iload_n 2, 1) := by decide +kernel
theorem dX3_row_65 : decode cX3_row 65 = .ok (.bipush (-4), 2) := by decide +kernel
theorem dX3_row_67 : decode cX3_row 67 = .ok (.if_icmp .ne 7, 3) := by decide +kernel
theorem dX3_row_70 : decode cX3_row 70 = .ok (.iconst (-1), 1) := by decide +kernel
theorem dX3_row_71 : decode cX3_row 71 = .ok (.goto 4, 3) := by decide +kernel
theorem dX3_row_74 : decode cX3_row 74 = .ok (.iload_n 2, 1) := by decide +kernel
theorem dX3_row_75 : decode cX3_row 75 = .ok (.iastore, 1) := by decide +kernel
theorem dX3_row_76 : decode cX3_row 76 = .ok (.iconst 0, 1) := by decide +kernel
theorem dX3_row_77 : decode cX3_row 77 = .ok (.istore_n 3, 1) := by decide +kernel
theorem dX3_row_78 : decode cX3_row 78 = .ok (.iload_n 3, 1) := by decide +kernel
theorem dX3_row_79 : decode cX3_row 79 = .ok (.iload_n 2, 1) := by decide +kernel
theorem dX3_row_80 : decode cX3_row 80 = .ok (.if_icmp .ge 26, 3) := by decide +kernel
theorem dX3_row_83 : decode cX3_row 83 = .ok (.aload_n 0, 1) := by decide +kernel
theorem dX3_row_84 : decode cX3_row 84 = .ok (.getfield 25, 3) := by decide +kernel
theorem dX3_row_87 : decode cX3_row 87 = .ok (.bipush 20, 2) := by decide +kernel
theorem dX3_row_89 : decode cX3_row 89 = .ok (.aload_n 0, 1) := by decide +kernel
theorem dX3_row_90 : decode cX3_row 90 = .ok (.getfield 7, 3) := by decide +kernel
theorem dX3_row_93 : decode cX3_row 93 = .ok (.iload_n 1, 1) := by decide +kernel
theorem dX3_row_94 : decode cX3_row 94 = .ok (.iaload, 1) := by decide +kernel
theorem dX3_row_95 : decode cX3_row 95 = .ok (.imul, 1) := by decide +kernel
theorem dX3_row_96 : decode cX3_row 96 = .ok (.iload_n 3, 1) := by decide +kernel
theorem dX3_row_97 : decode cX3_row 97 = .ok (.iadd, 1) := by decide +kernel
theorem dX3_row_98 : decode cX3_row 98 = .ok (.iconst 0, 1) := by decide +kernel
theorem dX3_row_99 : decode cX3_row 99 = .ok (.iastore, 1) := by decide +kernel
theorem dX3_row_100 : decode cX3_row 100 = .ok (.iinc 3 1, 3) := by decide +kernel
theorem dX3_row_103 : decode cX3_row 103 = .ok (.goto (-25), 3) := by decide +kernel
theorem dX3_row_106 : decode cX3_row 106 = .ok (.iload_n 2, 1) := by decide +kernel
theorem dX3_row_107 : decode cX3_row 107 = .ok (.ireturn, 1) := by decide +kernel
set_option maxRecDepth 20000 in
theorem ggX3_rowless_X3_isOther : GoodIn wsX3_rowless wsX3_isOther := goodIn_r _ [7, 1, 8, 9, 10, 6, 11, 12, 13, 14, 15, 16, 17, 18, 19, 20, 21, 22, 23, 24, 25, 26, 27, 28, 29, 30, 31, 32, 33, 34] rfl (by decide +kernel)
set_option maxRecDepth 20000 in
theorem gX3_rowless_X3_isOther : GoodIn wsX3_rowless (wsV RX3 126 RX3 yX3_isOther wsX3_isOther) := goodIn_app (goodIn_r _ [3, 4, 5, 6] rfl (by decide +kernel)) ggX3_rowless_X3_isOther
theorem dX3_rowless_0 : decode cX3_rowless 0 = .ok (.aload_n 0, 1) := by decide +kernel
theorem dX3_rowless_1 : decode cX3_rowless 1 = .ok (.iload_n 1, 1) := by decide +kernel
theorem dX3_rowless_2 : decode cX3_rowless 2 = .ok (.bipush 9, 2) := by decide +kernel
theorem dX3_rowless_4 : decode cX3_rowless 4 = .ok (.invokevirtual 126, 3) := by decide +kernel
theorem dX3_rowless_7 : decode cX3_rowless 7 = .ok (.ifCond .eq 8, 3) := by decide +kernel
theorem dX3_rowless_10 : decode cX3_rowless 10 = .ok (.bipush (-14), 2) := by decide +kernel
theorem dX3_rowless_12 : decode cX3_rowless 12 = .ok (.goto 34, 3) := by decide +kernel
theorem dX3_rowless_15 : decode cX3_rowless 15 = .ok (.aload_n 0, 1) := by decide +kernel
theorem dX3_rowless_16 : decode cX3_rowless 16 = .ok (.getfield 7, 3) := by decide +kernel
theorem dX3_rowless_19 : decode cX3_rowless 19 = .ok (.iload_n 1, 1) := by decide +kernel
theorem dX3_rowless_20 : decode cX3_rowless 20 = .ok (.iaload, 1) := by decide +kernel
theorem dX3_rowless_21 : decode cX3_rowless 21 = .ok (.iconst (-1), 1) := by decide +kernel
theorem dX3_rowless_22 : decode cX3_rowless 22 = .ok (.if_icmp .eq 18, 3) := by decide +kernel
theorem dX3_rowless_25 : decode cX3_rowless 25 = .ok (.aload_n 0, 1) := by decide +kernel
theorem dX3_rowless_26 : decode cX3_rowless 26 = .ok (.getfield 21, 3) := by decide +kernel
theorem dX3_rowless_29 : decode cX3_rowless 29 = .ok (.aload_n 0, 1) := by decide +kernel
theorem dX3_rowless_30 : decode cX3_rowless 30 = .ok (.getfield 7, 3) := by decide +kernel
theorem dX3_rowless_33 : decode cX3_rowless 33 = .ok (.iload_n 1, 1) := by decide +kernel
theorem dX3_rowless_34 : decode cX3_rowless 34 = .ok (.iaload, 1) := by decide +kernel
theorem dX3_rowless_35 : decode cX3_rowless 35 = .ok (.iaload, 1) := by decide +kernel
theorem dX3_rowless_36 : decode cX3_rowless 36 = .ok (.iconst (-1), 1) := by decide +kernel
theorem dX3_rowless_37 : decode cX3_rowless 37 = .ok (.if_icmp .ne 8, 3) := by decide +kernel
theorem dX3_rowless_40 : decode cX3_rowless 40 = .ok (.bipush (-11), 2) := by decide +kernel
theorem dX3_rowless_42 : decode cX3_rowless 42 = .ok (.goto 4, 3) := by decide +kernel
theorem dX3_rowless_45 : decode cX3_rowless 45 = .ok (.iconst 0, 1) := by decide +kernel
theorem dX3_rowless_46 : decode cX3_rowless 46 = .ok (.ireturn, 1) := by decide +kernel
set_option maxRecDepth 20000 in
theorem ggX3_put_X3_isSlot : GoodIn wsX3_put wsX3_isSlot := goodIn_r _ [7, 8, 9, 10, 6, 11] rfl (by decide +kernel)
set_option maxRecDepth 20000 in
theorem gX3_put_X3_isSlot : GoodIn wsX3_put (va_wsS RX3 84 yX3_isSlot wsX3_isSlot) := goodIn_app (goodIn_r _ [4, 5, 6] rfl (by decide +kernel)) ggX3_put_X3_isSlot
set_option maxRecDepth 20000 in
theorem ggX3_put_X3_rowless : GoodIn wsX3_put wsX3_rowless := goodIn_r _ [15, 2, 1, 16, 17, 18, 6, 19, 20, 21, 22, 23, 24, 25, 26, 27, 28, 29, 30, 31, 32, 33, 34, 35, 36, 37, 38, 39, 40, 41, 42, 43, 44, 45, 46] rfl (by decide +kernel)
set_option maxRecDepth 20000 in
theorem gX3_put_X3_rowless : GoodIn wsX3_put (wsV RX3 138 RX3 yX3_rowless wsX3_rowless) := goodIn_app (goodIn_r _ [12, 13, 14, 6] rfl (by decide +kernel)) ggX3_put_X3_rowless
set_option maxRecDepth 20000 in
theorem ggX3_put_X3_in : GoodIn wsX3_put wsX3_in := goodIn_r _ [11] rfl (by decide +kernel)
set_option maxRecDepth 20000 in
theorem gX3_put_X3_in : GoodIn wsX3_put (va_wsS RX3 70 yX3_in wsX3_in) := goodIn_app (goodIn_r _ [9, 10, 6] rfl (by decide +kernel)) ggX3_put_X3_in
theorem dX3_put_0 : decode cX3_put 0 = .ok (.iload_n 1, 1) := by decide +kernel
theorem dX3_put_1 : decode cX3_put 1 = .ok (.invokestatic 84, 3) := by decide +kernel
theorem dX3_put_4 : decode cX3_put 4 = .ok (.ifCond .ne 5, 3) := by decide +kernel
theorem dX3_put_7 : decode cX3_put 7 = .ok (.iconst (-1), 1) := by decide +kernel
theorem dX3_put_8 : decode cX3_put 8 = .ok (.ireturn, 1) := by decide +kernel
theorem dX3_put_9 : decode cX3_put 9 = .ok (.aload_n 0, 1) := by decide +kernel
theorem dX3_put_10 : decode cX3_put 10 = .ok (.iload_n 1, 1) := by decide +kernel
theorem dX3_put_11 : decode cX3_put 11 = .ok (.invokevirtual 138, 3) := by decide +kernel
theorem dX3_put_14 : decode cX3_put 14 = .ok (.istore 4, 2) := by decide +kernel
theorem dX3_put_16 : decode cX3_put 16 = .ok (.iload 4, 2) := by decide +kernel
theorem dX3_put_18 : decode cX3_put 18 = .ok (.ifCond .eq 6, 3) := by decide +kernel
theorem dX3_put_21 : decode cX3_put 21 = .ok (.iload 4, 2) := by decide +kernel
theorem dX3_put_23 : decode cX3_put 23 = .ok (.ireturn, 1) := by decide +kernel
theorem dX3_put_24 : decode cX3_put 24 = .ok (.iload_n 2, 1) := by decide +kernel
theorem dX3_put_25 : decode cX3_put 25 = .ok (.i2l, 1) := by decide +kernel
theorem dX3_put_26 : decode cX3_put 26 = .ok (.lconst 0, 1) := by decide +kernel
theorem dX3_put_27 : decode cX3_put 27 = .ok (.aload_n 0, 1) := by decide +kernel
theorem dX3_put_28 : decode cX3_put 28 = .ok (.getfield 21, 3) := by decide +kernel
theorem dX3_put_31 : decode cX3_put 31 = .ok (.aload_n 0, 1) := by decide +kernel
theorem dX3_put_32 : decode cX3_put 32 = .ok (.getfield 7, 3) := by decide +kernel
theorem dX3_put_35 : decode cX3_put 35 = .ok (.iload_n 1, 1) := by decide +kernel
theorem dX3_put_36 : decode cX3_put 36 = .ok (.iaload, 1) := by decide +kernel
theorem dX3_put_37 : decode cX3_put 37 = .ok (.iaload, 1) := by decide +kernel
theorem dX3_put_38 : decode cX3_put 38 = .ok (.iconst 1, 1) := by decide +kernel
theorem dX3_put_39 : decode cX3_put 39 = .ok (.isub, 1) := by decide +kernel
theorem dX3_put_40 : decode cX3_put 40 = .ok (.i2l, 1) := by decide +kernel
theorem dX3_put_41 : decode cX3_put 41 = .ok (.invokestatic 70, 3) := by decide +kernel
theorem dX3_put_44 : decode cX3_put 44 = .ok (.ifCond .ne 6, 3) := by decide +kernel
theorem dX3_put_47 : decode cX3_put 47 = .ok (.bipush (-12), 2) := by decide +kernel
theorem dX3_put_49 : decode cX3_put 49 = .ok (.ireturn, 1) := by decide +kernel
theorem dX3_put_50 : decode cX3_put 50 = .ok (.aload_n 0, 1) := by decide +kernel
theorem dX3_put_51 : decode cX3_put 51 = .ok (.getfield 25, 3) := by decide +kernel
theorem dX3_put_54 : decode cX3_put 54 = .ok (.bipush 20, 2) := by decide +kernel
theorem dX3_put_56 : decode cX3_put 56 = .ok (.aload_n 0, 1) := by decide +kernel
theorem dX3_put_57 : decode cX3_put 57 = .ok (.getfield 7, 3) := by decide +kernel
theorem dX3_put_60 : decode cX3_put 60 = .ok (.iload_n 1, 1) := by decide +kernel
theorem dX3_put_61 : decode cX3_put 61 = .ok (.iaload, 1) := by decide +kernel
theorem dX3_put_62 : decode cX3_put 62 = .ok (.imul, 1) := by decide +kernel
theorem dX3_put_63 : decode cX3_put 63 = .ok (.iload_n 2, 1) := by decide +kernel
theorem dX3_put_64 : decode cX3_put 64 = .ok (.iadd, 1) := by decide +kernel
theorem dX3_put_65 : decode cX3_put 65 = .ok (.iaload, 1) := by decide +kernel
theorem dX3_put_66 : decode cX3_put 66 = .ok (.istore 5, 2) := by decide +kernel
theorem dX3_put_68 : decode cX3_put 68 = .ok (.aload_n 0, 1) := by decide +kernel
theorem dX3_put_69 : decode cX3_put 69 = .ok (.getfield 25, 3) := by decide +kernel
theorem dX3_put_72 : decode cX3_put 72 = .ok (.bipush 20, 2) := by decide +kernel
theorem dX3_put_74 : decode cX3_put 74 = .ok (.aload_n 0, 1) := by decide +kernel
theorem dX3_put_75 : decode cX3_put 75 = .ok (.getfield 7, 3) := by decide +kernel
theorem dX3_put_78 : decode cX3_put 78 = .ok (.iload_n 1, 1) := by decide +kernel
theorem dX3_put_79 : decode cX3_put 79 = .ok (.iaload, 1) := by decide +kernel
theorem dX3_put_80 : decode cX3_put 80 = .ok (.imul, 1) := by decide +kernel
theorem dX3_put_81 : decode cX3_put 81 = .ok (.iload_n 2, 1) := by decide +kernel
theorem dX3_put_82 : decode cX3_put 82 = .ok (.iadd, 1) := by decide +kernel
theorem dX3_put_83 : decode cX3_put 83 = .ok (.iload_n 3, 1) := by decide +kernel
theorem dX3_put_84 : decode cX3_put 84 = .ok (.iastore, 1) := by decide +kernel
theorem dX3_put_85 : decode cX3_put 85 = .ok (.iload 5, 2) := by decide +kernel
theorem dX3_put_87 : decode cX3_put 87 = .ok (.ireturn, 1) := by decide +kernel
set_option maxRecDepth 20000 in
theorem ggX3_length_X3_isSlot : GoodIn wsX3_length wsX3_isSlot := goodIn_r _ [6, 7, 8, 9, 5, 10] rfl (by decide +kernel)
set_option maxRecDepth 20000 in
theorem gX3_length_X3_isSlot : GoodIn wsX3_length (va_wsS RX3 84 yX3_isSlot wsX3_isSlot) := goodIn_app (goodIn_r _ [3, 4, 5] rfl (by decide +kernel)) ggX3_length_X3_isSlot
set_option maxRecDepth 20000 in
theorem ggX3_length_X3_rowless : GoodIn wsX3_length wsX3_rowless := goodIn_r _ [14, 2, 1, 15, 16, 17, 5, 18, 19, 20, 21, 22, 23, 24, 25, 26, 27, 28, 29, 30, 31, 32, 33, 34, 35, 36, 37, 38, 39, 40, 41, 42, 43, 44, 45] rfl (by decide +kernel)
set_option maxRecDepth 20000 in
theorem gX3_length_X3_rowless : GoodIn wsX3_length (wsV RX3 138 RX3 yX3_rowless wsX3_rowless) := goodIn_app (goodIn_r _ [11, 12, 13, 5] rfl (by decide +kernel)) ggX3_length_X3_rowless
theorem dX3_length_0 : decode cX3_length 0 = .ok (.iload_n 1, 1) := by decide +kernel
theorem dX3_length_1 : decode cX3_length 1 = .ok (.invokestatic 84, 3) := by decide +kernel
theorem dX3_length_4 : decode cX3_length 4 = .ok (.ifCond .ne 5, 3) := by decide +kernel
theorem dX3_length_7 : decode cX3_length 7 = .ok (.iconst (-1), 1) := by decide +kernel
theorem dX3_length_8 : decode cX3_length 8 = .ok (.ireturn, 1) := by decide +kernel
theorem dX3_length_9 : decode cX3_length 9 = .ok (.aload_n 0, 1) := by decide +kernel
theorem dX3_length_10 : decode cX3_length 10 = .ok (.iload_n 1, 1) := by decide +kernel
theorem dX3_length_11 : decode cX3_length 11 = .ok (.invokevirtual 138, 3) := by decide +kernel
theorem dX3_length_14 : decode cX3_length 14 = .ok (.istore_n 2, 1) := by decide +kernel
theorem dX3_length_15 : decode cX3_length 15 = .ok (.iload_n 2, 1) := by decide +kernel
theorem dX3_length_16 : decode cX3_length 16 = .ok (.ifCond .eq 7, 3) := by decide +kernel
theorem dX3_length_19 : decode cX3_length 19 = .ok (.iload_n 2, 1) := by decide +kernel
theorem dX3_length_20 : decode cX3_length 20 = .ok (.goto 14, 3) := by decide +kernel
theorem dX3_length_23 : decode cX3_length 23 = .ok (.aload_n 0, 1) := by decide +kernel
theorem dX3_length_24 : decode cX3_length 24 = .ok (.getfield 21, 3) := by decide +kernel
theorem dX3_length_27 : decode cX3_length 27 = .ok (.aload_n 0, 1) := by decide +kernel
theorem dX3_length_28 : decode cX3_length 28 = .ok (.getfield 7, 3) := by decide +kernel
theorem dX3_length_31 : decode cX3_length 31 = .ok (.iload_n 1, 1) := by decide +kernel
theorem dX3_length_32 : decode cX3_length 32 = .ok (.iaload, 1) := by decide +kernel
theorem dX3_length_33 : decode cX3_length 33 = .ok (.iaload, 1) := by decide +kernel
theorem dX3_length_34 : decode cX3_length 34 = .ok (.ireturn, 1) := by decide +kernel
set_option maxRecDepth 20000 in
theorem ggX3_count_X3_isSlot : GoodIn wsX3_count wsX3_isSlot := goodIn_r _ [11, 12, 13, 14, 10, 15] rfl (by decide +kernel)
set_option maxRecDepth 20000 in
theorem gX3_count_X3_isSlot : GoodIn wsX3_count (va_wsS RX3 84 yX3_isSlot wsX3_isSlot) := goodIn_app (goodIn_r _ [8, 9, 10] rfl (by decide +kernel)) ggX3_count_X3_isSlot
set_option maxRecDepth 20000 in
theorem ggX3_count_X3_in : GoodIn wsX3_count wsX3_in := goodIn_r _ [15] rfl (by decide +kernel)
set_option maxRecDepth 20000 in
theorem gX3_count_X3_in : GoodIn wsX3_count (va_wsS RX3 70 yX3_in wsX3_in) := goodIn_app (goodIn_r _ [13, 14, 10] rfl (by decide +kernel)) ggX3_count_X3_in
set_option maxRecDepth 20000 in
theorem ggX3_count_X3_isBelow : GoodIn wsX3_count wsX3_isBelow := goodIn_r _ [18] rfl (by decide +kernel)
set_option maxRecDepth 20000 in
theorem gX3_count_X3_isBelow : GoodIn wsX3_count (va_wsS RX3 100 yX3_isBelow wsX3_isBelow) := goodIn_app (goodIn_r _ [16, 17, 10] rfl (by decide +kernel)) ggX3_count_X3_isBelow
theorem dX3_count_0 : decode cX3_count 0 = .ok (.iload_n 1, 1) := by decide +kernel
theorem dX3_count_1 : decode cX3_count 1 = .ok (.invokestatic 84, 3) := by decide +kernel
theorem dX3_count_4 : decode cX3_count 4 = .ok (.ifCond .eq 15, 3) := by decide +kernel
theorem dX3_count_7 : decode cX3_count 7 = .ok (.iload_n 2, 1) := by decide +kernel
theorem dX3_count_8 : decode cX3_count 8 = .ok (.i2l, 1) := by decide +kernel
theorem dX3_count_9 : decode cX3_count 9 = .ok (.lconst 0, 1) := by decide +kernel
theorem dX3_count_10 : decode cX3_count 10 = .ok (.ldc2_w 142, 3) := by decide +kernel
theorem dX3_count_13 : decode cX3_count 13 = .ok (.invokestatic 70, 3) := by decide +kernel
theorem dX3_count_16 : decode cX3_count 16 = .ok (.ifCond .ne 7, 3) := by decide +kernel
theorem dX3_count_19 : decode cX3_count 19 = .ok (.ldc2_w 82, 3) := by decide +kernel
theorem dX3_count_22 : decode cX3_count 22 = .ok (.lreturn, 1) := by decide +kernel
theorem dX3_count_23 : decode cX3_count 23 = .ok (.aload_n 0, 1) := by decide +kernel
theorem dX3_count_24 : decode cX3_count 24 = .ok (.getfield 7, 3) := by decide +kernel
theorem dX3_count_27 : decode cX3_count 27 = .ok (.iload_n 1, 1) := by decide +kernel
theorem dX3_count_28 : decode cX3_count 28 = .ok (.iaload, 1) := by decide +kernel
theorem dX3_count_29 : decode cX3_count 29 = .ok (.iconst (-1), 1) := by decide +kernel
theorem dX3_count_30 : decode cX3_count 30 = .ok (.if_icmp .ne 7, 3) := by decide +kernel
theorem dX3_count_33 : decode cX3_count 33 = .ok (.ldc2_w 124, 3) := by decide +kernel
theorem dX3_count_36 : decode cX3_count 36 = .ok (.lreturn, 1) := by decide +kernel
theorem dX3_count_37 : decode cX3_count 37 = .ok (.aload_n 0, 1) := by decide +kernel
theorem dX3_count_38 : decode cX3_count 38 = .ok (.getfield 13, 3) := by decide +kernel
theorem dX3_count_41 : decode cX3_count 41 = .ok (.aload_n 0, 1) := by decide +kernel
theorem dX3_count_42 : decode cX3_count 42 = .ok (.getfield 7, 3) := by decide +kernel
theorem dX3_count_45 : decode cX3_count 45 = .ok (.iload_n 1, 1) := by decide +kernel
theorem dX3_count_46 : decode cX3_count 46 = .ok (.iaload, 1) := by decide +kernel
theorem dX3_count_47 : decode cX3_count 47 = .ok (.iaload, 1) := by decide +kernel
theorem dX3_count_48 : decode cX3_count 48 = .ok (.iload_n 2, 1) := by decide +kernel
theorem dX3_count_49 : decode cX3_count 49 = .ok (.invokestatic 100, 3) := by decide +kernel
theorem dX3_count_52 : decode cX3_count 52 = .ok (.ifCond .eq 41, 3) := by decide +kernel
theorem dX3_count_55 : decode cX3_count 55 = .ok (.aload_n 0, 1) := by decide +kernel
theorem dX3_count_56 : decode cX3_count 56 = .ok (.getfield 17, 3) := by decide +kernel
theorem dX3_count_59 : decode cX3_count 59 = .ok (.bipush 17, 2) := by decide +kernel
theorem dX3_count_61 : decode cX3_count 61 = .ok (.aload_n 0, 1) := by decide +kernel
theorem dX3_count_62 : decode cX3_count 62 = .ok (.getfield 7, 3) := by decide +kernel
theorem dX3_count_65 : decode cX3_count 65 = .ok (.iload_n 1, 1) := by decide +kernel
theorem dX3_count_66 : decode cX3_count 66 = .ok (.iaload, 1) := by decide +kernel
theorem dX3_count_67 : decode cX3_count 67 = .ok (.imul, 1) := by decide +kernel
theorem dX3_count_68 : decode cX3_count 68 = .ok (.iload_n 2, 1) := by decide +kernel
theorem dX3_count_69 : decode cX3_count 69 = .ok (.ifCond .ne 7, 3) := by decide +kernel
theorem dX3_count_72 : decode cX3_count 72 = .ok (.iconst 4, 1) := by decide +kernel
theorem dX3_count_73 : decode cX3_count 73 = .ok (.goto 15, 3) := by decide +kernel
theorem dX3_count_76 : decode cX3_count 76 = .ok (.iload_n 2, 1) := by decide +kernel
theorem dX3_count_77 : decode cX3_count 77 = .ok (.iconst 1, 1) := by decide +kernel
theorem dX3_count_78 : decode cX3_count 78 = .ok (.if_icmp .ne 8, 3) := by decide +kernel
theorem dX3_count_81 : decode cX3_count 81 = .ok (.bipush 10, 2) := by decide +kernel
theorem dX3_count_83 : decode cX3_count 83 = .ok (.goto 5, 3) := by decide +kernel
theorem dX3_count_86 : decode cX3_count 86 = .ok (.bipush 12, 2) := by decide +kernel
theorem dX3_count_88 : decode cX3_count 88 = .ok (.iadd, 1) := by decide +kernel
theorem dX3_count_89 : decode cX3_count 89 = .ok (.laload, 1) := by decide +kernel
theorem dX3_count_90 : decode cX3_count 90 = .ok (.goto 6, 3) := by decide +kernel
theorem dX3_count_93 : decode cX3_count 93 = .ok (.ldc2_w 129, 3) := by decide +kernel
theorem dX3_count_96 : decode cX3_count 96 = .ok (.lreturn, 1) := by decide +kernel
theorem dX3_nameOf_0 : decode cX3_nameOf 0 = .ok (.bipush 17, 2) := by decide +kernel
theorem dX3_nameOf_2 : decode cX3_nameOf 2 = .ok (.iload_n 1, 1) := by decide +kernel
theorem dX3_nameOf_3 : decode cX3_nameOf 3 = .ok (.imul, 1) := by decide +kernel
theorem dX3_nameOf_4 : decode cX3_nameOf 4 = .ok (.istore_n 2, 1) := by decide +kernel
theorem dX3_nameOf_5 : decode cX3_nameOf 5 = .ok (.iconst 1, 1) := by decide +kernel
theorem dX3_nameOf_6 : decode cX3_nameOf 6 = .ok (.aload_n 0, 1) := by decide +kernel
theorem dX3_nameOf_7 : decode cX3_nameOf 7 = .ok (.getfield 17, 3) := by decide +kernel
theorem dX3_nameOf_10 : decode cX3_nameOf 10 = .ok (.iload_n 2, 1) := by decide +kernel
theorem dX3_nameOf_11 : decode cX3_nameOf 11 = .ok (.iconst 4, 1) := by decide +kernel
theorem dX3_nameOf_12 : decode cX3_nameOf 12 = .ok (.iadd, 1) := by decide +kernel
theorem dX3_nameOf_13 : decode cX3_nameOf 13 = .ok (.laload, 1) := by decide +kernel
theorem dX3_nameOf_14 : decode cX3_nameOf 14 = .ok (.l2i, 1) := by decide +kernel
theorem dX3_nameOf_15 : decode cX3_nameOf 15 = .ok (.iadd, 1) := by decide +kernel
theorem dX3_nameOf_16 : decode cX3_nameOf 16 = .ok (.istore_n 3, 1) := by decide +kernel
theorem dX3_nameOf_17 : decode cX3_nameOf 17 = .ok (.aload_n 0, 1) := by decide +kernel
theorem dX3_nameOf_18 : decode cX3_nameOf 18 = .ok (.getfield 13, 3) := by decide +kernel
theorem dX3_nameOf_21 : decode cX3_nameOf 21 = .ok (.iload_n 1, 1) := by decide +kernel
theorem dX3_nameOf_22 : decode cX3_nameOf 22 = .ok (.iaload, 1) := by decide +kernel
theorem dX3_nameOf_23 : decode cX3_nameOf 23 = .ok (.ifCond .le 19, 3) := by decide +kernel
theorem dX3_nameOf_26 : decode cX3_nameOf 26 = .ok (.bipush 10, 2) := by decide +kernel
theorem dX3_nameOf_28 : decode cX3_nameOf 28 = .ok (.iload_n 3, 1) := by decide +kernel
theorem dX3_nameOf_29 : decode cX3_nameOf 29 = .ok (.imul, 1) := by decide +kernel
theorem dX3_nameOf_30 : decode cX3_nameOf 30 = .ok (.aload_n 0, 1) := by decide +kernel
theorem dX3_nameOf_31 : decode cX3_nameOf 31 = .ok (.getfield 17, 3) := by decide +kernel
theorem dX3_nameOf_34 : decode cX3_nameOf 34 = .ok (.iload_n 2, 1) := by decide +kernel
theorem dX3_nameOf_35 : decode cX3_nameOf 35 = .ok (.bipush 10, 2) := by decide +kernel
theorem dX3_nameOf_37 : decode cX3_nameOf 37 = .ok (.iadd, 1) := by decide +kernel
theorem dX3_nameOf_38 : decode cX3_nameOf 38 = .ok (.laload, 1) := by decide +kernel
theorem dX3_nameOf_39 : decode cX3_nameOf 39 = .ok (.l2i, 1) := by decide +kernel
theorem dX3_nameOf_40 : decode cX3_nameOf 40 = .ok (.iadd, 1) := by decide +kernel
theorem dX3_nameOf_41 : decode cX3_nameOf 41 = .ok (.istore_n 3, 1) := by decide +kernel
theorem dX3_nameOf_42 : decode cX3_nameOf 42 = .ok (.aload_n 0, 1) := by decide +kernel
theorem dX3_nameOf_43 : decode cX3_nameOf 43 = .ok (.getfield 13, 3) := by decide +kernel
theorem dX3_nameOf_46 : decode cX3_nameOf 46 = .ok (.iload_n 1, 1) := by decide +kernel
theorem dX3_nameOf_47 : decode cX3_nameOf 47 = .ok (.iaload, 1) := by decide +kernel
theorem dX3_nameOf_48 : decode cX3_nameOf 48 = .ok (.iconst 2, 1) := by decide +kernel
theorem dX3_nameOf_49 : decode cX3_nameOf 49 = .ok (.if_icmp .ne 18, 3) := by decide +kernel
theorem dX3_nameOf_52 : decode cX3_nameOf 52 = .ok (.iload_n 3, 1) := by decide +kernel
theorem dX3_nameOf_53 : decode cX3_nameOf 53 = .ok (.aload_n 0, 1) := by decide +kernel
theorem dX3_nameOf_54 : decode cX3_nameOf 54 = .ok (.getfield 17, 3) := by decide +kernel
theorem dX3_nameOf_57 : decode cX3_nameOf 57 = .ok (.iload_n 2, 1) := by decide +kernel
theorem dX3_nameOf_58 : decode cX3_nameOf 58 = .ok (.bipush 13, 2) := by decide +kernel
theorem dX3_nameOf_60 : decode cX3_nameOf 60 = .ok (.iadd, 1) := by decide +kernel
theorem dX3_nameOf_61 : decode cX3_nameOf 61 = .ok (.laload, 1) := by decide +kernel
theorem dX3_nameOf_62 : decode cX3_nameOf 62 = .ok (.l2i, 1) := by decide +kernel
theorem dX3_nameOf_63 : decode cX3_nameOf 63 = .ok (.iadd, 1) := by decide +kernel
theorem dX3_nameOf_64 : decode cX3_nameOf 64 = .ok (.goto 4, 3) := by decide +kernel
theorem dX3_nameOf_67 : decode cX3_nameOf 67 = .ok (.iload_n 3, 1) := by decide +kernel
theorem dX3_nameOf_68 : decode cX3_nameOf 68 = .ok (.ireturn, 1) := by decide +kernel
theorem dX3_depthOf_0 : decode cX3_depthOf 0 = .ok (.iconst (-1), 1) := by decide +kernel
theorem dX3_depthOf_1 : decode cX3_depthOf 1 = .ok (.istore_n 2, 1) := by decide +kernel
theorem dX3_depthOf_2 : decode cX3_depthOf 2 = .ok (.iload_n 1, 1) := by decide +kernel
theorem dX3_depthOf_3 : decode cX3_depthOf 3 = .ok (.istore_n 3, 1) := by decide +kernel
theorem dX3_depthOf_4 : decode cX3_depthOf 4 = .ok (.iload_n 3, 1) := by decide +kernel
theorem dX3_depthOf_5 : decode cX3_depthOf 5 = .ok (.iconst (-1), 1) := by decide +kernel
theorem dX3_depthOf_6 : decode cX3_depthOf 6 = .ok (.if_icmp .eq 58, 3) := by decide +kernel
theorem dX3_depthOf_9 : decode cX3_depthOf 9 = .ok (.iload_n 2, 1) := by decide +kernel
theorem dX3_depthOf_10 : decode cX3_depthOf 10 = .ok (.bipush 50, 2) := by decide +kernel
theorem dX3_depthOf_12 : decode cX3_depthOf 12 = .ok (.if_icmp .ge 52, 3) := by decide +kernel
theorem dX3_depthOf_15 : decode cX3_depthOf 15 = .ok (.iinc 2 1, 3) := by decide +kernel
theorem dX3_depthOf_18 : decode cX3_depthOf 18 = .ok (.aload_n 0, 1) := by decide +kernel
theorem dX3_depthOf_19 : decode cX3_depthOf 19 = .ok (.getfield 13, 3) := by decide +kernel
theorem dX3_depthOf_22 : decode cX3_depthOf 22 = .ok (.iload_n 3, 1) := by decide +kernel
theorem dX3_depthOf_23 : decode cX3_depthOf 23 = .ok (.iaload, 1) := by decide +kernel
theorem dX3_depthOf_24 : decode cX3_depthOf 24 = .ok (.istore 4, 2) := by decide +kernel
theorem dX3_depthOf_26 : decode cX3_depthOf 26 = .ok (.aload_n 0, 1) := by decide +kernel
theorem dX3_depthOf_27 : decode cX3_depthOf 27 = .ok (.getfield 17, 3) := by decide +kernel
theorem dX3_depthOf_30 : decode cX3_depthOf 30 = .ok (.bipush 17, 2) := by decide +kernel
theorem dX3_depthOf_32 : decode cX3_depthOf 32 = .ok (.iload_n 3, 1) := by decide +kernel
theorem dX3_depthOf_33 : decode cX3_depthOf 33 = .ok (.imul, 1) := by decide +kernel
theorem dX3_depthOf_34 : decode cX3_depthOf 34 = .ok (.iload 4, 2) := by decide +kernel
theorem dX3_depthOf_36 : decode cX3_depthOf 36 = .ok (.ifCond .ne 8, 3) := by decide +kernel
theorem dX3_depthOf_39 : decode cX3_depthOf 39 = .ok (.bipush 8, 2) := by decide +kernel
theorem dX3_depthOf_41 : decode cX3_depthOf 41 = .ok (.goto 16, 3) := by decide +kernel
theorem dX3_depthOf_44 : decode cX3_depthOf 44 = .ok (.iload 4, 2) := by decide +kernel
theorem dX3_depthOf_46 : decode cX3_depthOf 46 = .ok (.iconst 3, 1) := by decide +kernel
theorem dX3_depthOf_47 : decode cX3_depthOf 47 = .ok (.if_icmp .ne 8, 3) := by decide +kernel
theorem dX3_depthOf_50 : decode cX3_depthOf 50 = .ok (.bipush 15, 2) := by decide +kernel
theorem dX3_depthOf_52 : decode cX3_depthOf 52 = .ok (.goto 5, 3) := by decide +kernel
theorem dX3_depthOf_55 : decode cX3_depthOf 55 = .ok (.bipush 11, 2) := by decide +kernel
theorem dX3_depthOf_57 : decode cX3_depthOf 57 = .ok (.iadd, 1) := by decide +kernel
theorem dX3_depthOf_58 : decode cX3_depthOf 58 = .ok (.laload, 1) := by decide +kernel
theorem dX3_depthOf_59 : decode cX3_depthOf 59 = .ok (.l2i, 1) := by decide +kernel
theorem dX3_depthOf_60 : decode cX3_depthOf 60 = .ok (.istore_n 3, 1) := by decide +kernel
theorem dX3_depthOf_61 : decode cX3_depthOf 61 = .ok (.goto (-57), 3) := by decide +kernel
theorem dX3_depthOf_64 : decode cX3_depthOf 64 = .ok (.iload_n 2, 1) := by decide +kernel
theorem dX3_depthOf_65 : decode cX3_depthOf 65 = .ok (.ireturn, 1) := by decide +kernel
theorem dX3_kindOf_0 : decode cX3_kindOf 0 = .ok (.iconst 0, 1) := by decide +kernel
theorem dX3_kindOf_1 : decode cX3_kindOf 1 = .ok (.istore_n 2, 1) := by decide +kernel
theorem dX3_kindOf_2 : decode cX3_kindOf 2 = .ok (.iconst 1, 1) := by decide +kernel
theorem dX3_kindOf_3 : decode cX3_kindOf 3 = .ok (.istore_n 3, 1) := by decide +kernel
theorem dX3_kindOf_4 : decode cX3_kindOf 4 = .ok (.iload_n 1, 1) := by decide +kernel
theorem dX3_kindOf_5 : decode cX3_kindOf 5 = .ok (.istore 4, 2) := by decide +kernel
theorem dX3_kindOf_7 : decode cX3_kindOf 7 = .ok (.iconst 0, 1) := by decide +kernel
theorem dX3_kindOf_8 : decode cX3_kindOf 8 = .ok (.istore 5, 2) := by decide +kernel
theorem dX3_kindOf_10 : decode cX3_kindOf 10 = .ok (.iload 5, 2) := by decide +kernel
theorem dX3_kindOf_12 : decode cX3_kindOf 12 = .ok (.bipush 8, 2) := by decide +kernel
theorem dX3_kindOf_14 : decode cX3_kindOf 14 = .ok (.if_icmp .ge 81, 3) := by decide +kernel
theorem dX3_kindOf_17 : decode cX3_kindOf 17 = .ok (.iload 4, 2) := by decide +kernel
theorem dX3_kindOf_19 : decode cX3_kindOf 19 = .ok (.iconst (-1), 1) := by decide +kernel
theorem dX3_kindOf_20 : decode cX3_kindOf 20 = .ok (.if_icmp .eq 75, 3) := by decide +kernel
theorem dX3_kindOf_23 : decode cX3_kindOf 23 = .ok (.iload_n 2, 1) := by decide +kernel
theorem dX3_kindOf_24 : decode cX3_kindOf 24 = .ok (.iload_n 3, 1) := by decide +kernel
theorem dX3_kindOf_25 : decode cX3_kindOf 25 = .ok (.aload_n 0, 1) := by decide +kernel
theorem dX3_kindOf_26 : decode cX3_kindOf 26 = .ok (.getfield 13, 3) := by decide +kernel
theorem dX3_kindOf_29 : decode cX3_kindOf 29 = .ok (.iload 4, 2) := by decide +kernel
theorem dX3_kindOf_31 : decode cX3_kindOf 31 = .ok (.iaload, 1) := by decide +kernel
theorem dX3_kindOf_32 : decode cX3_kindOf 32 = .ok (.iconst 3, 1) := by decide +kernel
theorem dX3_kindOf_33 : decode cX3_kindOf 33 = .ok (.if_icmp .ne 8, 3) := by decide +kernel
theorem dX3_kindOf_36 : decode cX3_kindOf 36 = .ok (.bipush 7, 2) := by decide +kernel
theorem dX3_kindOf_38 : decode cX3_kindOf 38 = .ok (.goto 12, 3) := by decide +kernel
theorem dX3_kindOf_41 : decode cX3_kindOf 41 = .ok (.aload_n 0, 1) := by decide +kernel
theorem dX3_kindOf_42 : decode cX3_kindOf 42 = .ok (.getfield 13, 3) := by decide +kernel
theorem dX3_kindOf_45 : decode cX3_kindOf 45 = .ok (.iload 4, 2) := by decide +kernel
theorem dX3_kindOf_47 : decode cX3_kindOf 47 = .ok (.iaload, 1) := by decide +kernel
theorem dX3_kindOf_48 : decode cX3_kindOf 48 = .ok (.iconst 1, 1) := by decide +kernel
theorem dX3_kindOf_49 : decode cX3_kindOf 49 = .ok (.iadd, 1) := by decide +kernel
theorem dX3_kindOf_50 : decode cX3_kindOf 50 = .ok (.imul, 1) := by decide +kernel
theorem dX3_kindOf_51 : decode cX3_kindOf 51 = .ok (.iadd, 1) := by decide +kernel
theorem dX3_kindOf_52 : decode cX3_kindOf 52 = .ok (.istore_n 2, 1) := by decide +kernel
theorem dX3_kindOf_53 : decode cX3_kindOf 53 = .ok (.iload_n 3, 1) := by decide +kernel
theorem dX3_kindOf_54 : decode cX3_kindOf 54 = .ok (.bipush 10, 2) := by decide +kernel
theorem dX3_kindOf_56 : decode cX3_kindOf 56 = .ok (.imul, 1) := by decide +kernel
theorem dX3_kindOf_57 : decode cX3_kindOf 57 = .ok (.istore_n 3, 1) := by decide +kernel
theorem dX3_kindOf_58 : decode cX3_kindOf 58 = .ok (.aload_n 0, 1) := by decide +kernel
theorem dX3_kindOf_59 : decode cX3_kindOf 59 = .ok (.getfield 13, 3) := by decide +kernel
theorem dX3_kindOf_62 : decode cX3_kindOf 62 = .ok (.iload 4, 2) := by decide +kernel
theorem dX3_kindOf_64 : decode cX3_kindOf 64 = .ok (.iaload, 1) := by decide +kernel
theorem dX3_kindOf_65 : decode cX3_kindOf 65 = .ok (.iconst 3, 1) := by decide +kernel
theorem dX3_kindOf_66 : decode cX3_kindOf 66 = .ok (.if_icmp .ne 7, 3) := by decide +kernel
theorem dX3_kindOf_69 : decode cX3_kindOf 69 = .ok (.iconst (-1), 1) := by decide +kernel
theorem dX3_kindOf_70 : decode cX3_kindOf 70 = .ok (.goto 17, 3) := by decide +kernel
theorem dX3_kindOf_73 : decode cX3_kindOf 73 = .ok (.aload_n 0, 1) := by decide +kernel
theorem dX3_kindOf_74 : decode cX3_kindOf 74 = .ok (.getfield 17, 3) := by decide +kernel
theorem dX3_kindOf_77 : decode cX3_kindOf 77 = .ok (.bipush 17, 2) := by decide +kernel
theorem dX3_kindOf_79 : decode cX3_kindOf 79 = .ok (.iload 4, 2) := by decide +kernel
theorem dX3_kindOf_81 : decode cX3_kindOf 81 = .ok (.imul, 1) := by decide +kernel
theorem dX3_kindOf_82 : decode cX3_kindOf 82 = .ok (.bipush 8, 2) := by decide +kernel
theorem dX3_kindOf_84 : decode cX3_kindOf 84 = .ok (.iadd, 1) := by decide +kernel
theorem dX3_kindOf_85 : decode cX3_kindOf 85 = .ok (.laload, 1) := by decide +kernel
theorem dX3_kindOf_86 : decode cX3_kindOf 86 = .ok (.l2i, 1) := by decide +kernel
theorem dX3_kindOf_87 : decode cX3_kindOf 87 = .ok (.istore 4, 2) := by decide +kernel
theorem dX3_kindOf_89 : decode cX3_kindOf 89 = .ok (.iinc 5 1, 3) := by decide +kernel
theorem dX3_kindOf_92 : decode cX3_kindOf 92 = .ok (.goto (-82), 3) := by decide +kernel
theorem dX3_kindOf_95 : decode cX3_kindOf 95 = .ok (.iload_n 2, 1) := by decide +kernel
theorem dX3_kindOf_96 : decode cX3_kindOf 96 = .ok (.ireturn, 1) := by decide +kernel
set_option maxRecDepth 20000 in
theorem ggX3_call_X3_isSlot : GoodIn wsX3_call wsX3_isSlot := goodIn_r _ [8, 9, 10, 11, 7, 12] rfl (by decide +kernel)
set_option maxRecDepth 20000 in
theorem gX3_call_X3_isSlot : GoodIn wsX3_call (va_wsS RX3 84 yX3_isSlot wsX3_isSlot) := goodIn_app (goodIn_r _ [5, 6, 7] rfl (by decide +kernel)) ggX3_call_X3_isSlot
set_option maxRecDepth 20000 in
theorem ggX3_call_X3_in : GoodIn wsX3_call wsX3_in := goodIn_r _ [12] rfl (by decide +kernel)
set_option maxRecDepth 20000 in
theorem gX3_call_X3_in : GoodIn wsX3_call (va_wsS RX3 70 yX3_in wsX3_in) := goodIn_app (goodIn_r _ [10, 11, 7] rfl (by decide +kernel)) ggX3_call_X3_in
set_option maxRecDepth 20000 in
theorem ggX3_call_X3_isBelow : GoodIn wsX3_call wsX3_isBelow := goodIn_r _ [15] rfl (by decide +kernel)
set_option maxRecDepth 20000 in
theorem gX3_call_X3_isBelow : GoodIn wsX3_call (va_wsS RX3 100 yX3_isBelow wsX3_isBelow) := goodIn_app (goodIn_r _ [13, 14, 7] rfl (by decide +kernel)) ggX3_call_X3_isBelow
set_option maxRecDepth 20000 in
theorem ggX3_call_X3_nameOf : GoodIn wsX3_call wsX3_nameOf := goodIn_r _ [19, 4, 3, 28, 29, 30, 31, 32, 33, 34, 35, 36, 37, 38, 39, 40, 41, 42, 43, 44, 45, 46, 47, 48, 49, 50] rfl (by decide +kernel)
set_option maxRecDepth 20000 in
theorem gX3_call_X3_nameOf : GoodIn wsX3_call (wsV RX3 144 RX3 yX3_nameOf wsX3_nameOf) := goodIn_app (goodIn_r _ [16, 17, 18, 7] rfl (by decide +kernel)) ggX3_call_X3_nameOf
set_option maxRecDepth 20000 in
theorem ggX3_call_X3_depthOf : GoodIn wsX3_call wsX3_depthOf := goodIn_r _ [23, 3, 4, 28, 29, 30, 31, 32, 33, 34, 35, 36, 37, 38, 39, 40, 41, 42, 43, 44, 45, 46, 47, 48, 49, 50] rfl (by decide +kernel)
set_option maxRecDepth 20000 in
theorem gX3_call_X3_depthOf : GoodIn wsX3_call (wsV RX3 147 RX3 yX3_depthOf wsX3_depthOf) := goodIn_app (goodIn_r _ [20, 21, 22, 7] rfl (by decide +kernel)) ggX3_call_X3_depthOf
set_option maxRecDepth 20000 in
theorem ggX3_call_X3_kindOf : GoodIn wsX3_call wsX3_kindOf := goodIn_r _ [27, 3, 4, 28, 29, 30, 31, 32, 33, 34, 35, 36, 37, 38, 39, 40, 41, 42, 43, 44, 45, 46, 47, 48, 49, 50] rfl (by decide +kernel)
set_option maxRecDepth 20000 in
theorem gX3_call_X3_kindOf : GoodIn wsX3_call (wsV RX3 150 RX3 yX3_kindOf wsX3_kindOf) := goodIn_app (goodIn_r _ [24, 25, 26, 7] rfl (by decide +kernel)) ggX3_call_X3_kindOf
theorem dX3_call_0 : decode cX3_call 0 = .ok (.iload_n 1, 1) := by decide +kernel
theorem dX3_call_1 : decode cX3_call 1 = .ok (.invokestatic 84, 3) := by decide +kernel
theorem dX3_call_4 : decode cX3_call 4 = .ok (.ifCond .eq 15, 3) := by decide +kernel
theorem dX3_call_7 : decode cX3_call 7 = .ok (.iload_n 2, 1) := by decide +kernel
theorem dX3_call_8 : decode cX3_call 8 = .ok (.i2l, 1) := by decide +kernel
theorem dX3_call_9 : decode cX3_call 9 = .ok (.lconst 0, 1) := by decide +kernel
theorem dX3_call_10 : decode cX3_call 10 = .ok (.ldc2_w 87, 3) := by decide +kernel
theorem dX3_call_13 : decode cX3_call 13 = .ok (.invokestatic 70, 3) := by decide +kernel
theorem dX3_call_16 : decode cX3_call 16 = .ok (.ifCond .ne 5, 3) := by decide +kernel
theorem dX3_call_19 : decode cX3_call 19 = .ok (.iconst (-1), 1) := by decide +kernel
theorem dX3_call_20 : decode cX3_call 20 = .ok (.ireturn, 1) := by decide +kernel
theorem dX3_call_21 : decode cX3_call 21 = .ok (.aload_n 0, 1) := by decide +kernel
theorem dX3_call_22 : decode cX3_call 22 = .ok (.getfield 7, 3) := by decide +kernel
theorem dX3_call_25 : decode cX3_call 25 = .ok (.iload_n 1, 1) := by decide +kernel
theorem dX3_call_26 : decode cX3_call 26 = .ok (.iaload, 1) := by decide +kernel
theorem dX3_call_27 : decode cX3_call 27 = .ok (.istore_n 3, 1) := by decide +kernel
theorem dX3_call_28 : decode cX3_call 28 = .ok (.iload_n 3, 1) := by decide +kernel
theorem dX3_call_29 : decode cX3_call 29 = .ok (.iconst (-1), 1) := by decide +kernel
theorem dX3_call_30 : decode cX3_call 30 = .ok (.if_icmp .ne 6, 3) := by decide +kernel
theorem dX3_call_33 : decode cX3_call 33 = .ok (.bipush (-11), 2) := by decide +kernel
theorem dX3_call_35 : decode cX3_call 35 = .ok (.ireturn, 1) := by decide +kernel
theorem dX3_call_36 : decode cX3_call 36 = .ok (.aload_n 0, 1) := by decide +kernel
theorem dX3_call_37 : decode cX3_call 37 = .ok (.getfield 13, 3) := by decide +kernel
theorem dX3_call_40 : decode cX3_call 40 = .ok (.iload_n 3, 1) := by decide +kernel
theorem dX3_call_41 : decode cX3_call 41 = .ok (.iaload, 1) := by decide +kernel
theorem dX3_call_42 : decode cX3_call 42 = .ok (.iload_n 2, 1) := by decide +kernel
theorem dX3_call_43 : decode cX3_call 43 = .ok (.iconst 2, 1) := by decide +kernel
theorem dX3_call_44 : decode cX3_call 44 = .ok (.if_icmp .eq 8, 3) := by decide +kernel
theorem dX3_call_47 : decode cX3_call 47 = .ok (.iload_n 2, 1) := by decide +kernel
theorem dX3_call_48 : decode cX3_call 48 = .ok (.iconst 3, 1) := by decide +kernel
theorem dX3_call_49 : decode cX3_call 49 = .ok (.if_icmp .ne 7, 3) := by decide +kernel
theorem dX3_call_52 : decode cX3_call 52 = .ok (.iconst 5, 1) := by decide +kernel
theorem dX3_call_53 : decode cX3_call 53 = .ok (.goto 4, 3) := by decide +kernel
theorem dX3_call_56 : decode cX3_call 56 = .ok (.iconst 0, 1) := by decide +kernel
theorem dX3_call_57 : decode cX3_call 57 = .ok (.invokestatic 100, 3) := by decide +kernel
theorem dX3_call_60 : decode cX3_call 60 = .ok (.ifCond .ne 6, 3) := by decide +kernel
theorem dX3_call_63 : decode cX3_call 63 = .ok (.bipush (-14), 2) := by decide +kernel
theorem dX3_call_65 : decode cX3_call 65 = .ok (.ireturn, 1) := by decide +kernel
theorem dX3_call_66 : decode cX3_call 66 = .ok (.iload_n 2, 1) := by decide +kernel
theorem dX3_call_67 : decode cX3_call 67 = .ok (.tableswitch 72 0 3 #[29, 35, 60, 66], 29) := by decide +kernel
theorem dX3_call_96 : decode cX3_call 96 = .ok (.aload_n 0, 1) := by decide +kernel
theorem dX3_call_97 : decode cX3_call 97 = .ok (.iload_n 3, 1) := by decide +kernel
theorem dX3_call_98 : decode cX3_call 98 = .ok (.invokevirtual 144, 3) := by decide +kernel
theorem dX3_call_101 : decode cX3_call 101 = .ok (.ireturn, 1) := by decide +kernel
theorem dX3_call_102 : decode cX3_call 102 = .ok (.aload_n 0, 1) := by decide +kernel
theorem dX3_call_103 : decode cX3_call 103 = .ok (.getfield 17, 3) := by decide +kernel
theorem dX3_call_106 : decode cX3_call 106 = .ok (.bipush 17, 2) := by decide +kernel
theorem dX3_call_108 : decode cX3_call 108 = .ok (.iload_n 3, 1) := by decide +kernel
theorem dX3_call_109 : decode cX3_call 109 = .ok (.imul, 1) := by decide +kernel
theorem dX3_call_110 : decode cX3_call 110 = .ok (.iconst 1, 1) := by decide +kernel
theorem dX3_call_111 : decode cX3_call 111 = .ok (.iadd, 1) := by decide +kernel
theorem dX3_call_112 : decode cX3_call 112 = .ok (.laload, 1) := by decide +kernel
theorem dX3_call_113 : decode cX3_call 113 = .ok (.aload_n 0, 1) := by decide +kernel
theorem dX3_call_114 : decode cX3_call 114 = .ok (.getfield 17, 3) := by decide +kernel
theorem dX3_call_117 : decode cX3_call 117 = .ok (.bipush 17, 2) := by decide +kernel
theorem dX3_call_119 : decode cX3_call 119 = .ok (.iload_n 3, 1) := by decide +kernel
theorem dX3_call_120 : decode cX3_call 120 = .ok (.imul, 1) := by decide +kernel
theorem dX3_call_121 : decode cX3_call 121 = .ok (.iconst 2, 1) := by decide +kernel
theorem dX3_call_122 : decode cX3_call 122 = .ok (.iadd, 1) := by decide +kernel
theorem dX3_call_123 : decode cX3_call 123 = .ok (.laload, 1) := by decide +kernel
theorem dX3_call_124 : decode cX3_call 124 = .ok (.ladd, 1) := by decide +kernel
theorem dX3_call_125 : decode cX3_call 125 = .ok (.l2i, 1) := by decide +kernel
theorem dX3_call_126 : decode cX3_call 126 = .ok (.ireturn, 1) := by decide +kernel
theorem dX3_call_127 : decode cX3_call 127 = .ok (.aload_n 0, 1) := by decide +kernel
theorem dX3_call_128 : decode cX3_call 128 = .ok (.iload_n 3, 1) := by decide +kernel
theorem dX3_call_129 : decode cX3_call 129 = .ok (.invokevirtual 147, 3) := by decide +kernel
theorem dX3_call_132 : decode cX3_call 132 = .ok (.ireturn, 1) := by decide +kernel
theorem dX3_call_133 : decode cX3_call 133 = .ok (.aload_n 0, 1) := by decide +kernel
theorem dX3_call_134 : decode cX3_call 134 = .ok (.iload_n 3, 1) := by decide +kernel
theorem dX3_call_135 : decode cX3_call 135 = .ok (.invokevirtual 150, 3) := by decide +kernel
theorem dX3_call_138 : decode cX3_call 138 = .ok (.ireturn, 1) := by decide +kernel
theorem dX3_call_139 : decode cX3_call 139 = .ok (.aload_n 0, 1) := by decide +kernel
theorem dX3_call_140 : decode cX3_call 140 = .ok (.getfield 17, 3) := by decide +kernel
theorem dX3_call_143 : decode cX3_call 143 = .ok (.bipush 17, 2) := by decide +kernel
theorem dX3_call_145 : decode cX3_call 145 = .ok (.iload_n 3, 1) := by decide +kernel
theorem dX3_call_146 : decode cX3_call 146 = .ok (.imul, 1) := by decide +kernel
theorem dX3_call_147 : decode cX3_call 147 = .ok (.bipush 8, 2) := by decide +kernel
theorem dX3_call_149 : decode cX3_call 149 = .ok (.iadd, 1) := by decide +kernel
theorem dX3_call_150 : decode cX3_call 150 = .ok (.laload, 1) := by decide +kernel
theorem dX3_call_151 : decode cX3_call 151 = .ok (.l2i, 1) := by decide +kernel
theorem dX3_call_152 : decode cX3_call 152 = .ok (.istore 4, 2) := by decide +kernel
theorem dX3_call_154 : decode cX3_call 154 = .ok (.iload 4, 2) := by decide +kernel
theorem dX3_call_156 : decode cX3_call 156 = .ok (.iconst (-1), 1) := by decide +kernel
theorem dX3_call_157 : decode cX3_call 157 = .ok (.if_icmp .ne 8, 3) := by decide +kernel
theorem dX3_call_160 : decode cX3_call 160 = .ok (.bipush (-11), 2) := by decide +kernel
theorem dX3_call_162 : decode cX3_call 162 = .ok (.goto 9, 3) := by decide +kernel
theorem dX3_call_165 : decode cX3_call 165 = .ok (.aload_n 0, 1) := by decide +kernel
theorem dX3_call_166 : decode cX3_call 166 = .ok (.iload 4, 2) := by decide +kernel
theorem dX3_call_168 : decode cX3_call 168 = .ok (.invokevirtual 144, 3) := by decide +kernel
theorem dX3_call_171 : decode cX3_call 171 = .ok (.ireturn, 1) := by decide +kernel
set_option maxRecDepth 20000 in
theorem ggX3_raise_X3_isSlot : GoodIn wsX3_raise wsX3_isSlot := goodIn_r _ [7, 8, 9, 10, 6, 11] rfl (by decide +kernel)
set_option maxRecDepth 20000 in
theorem gX3_raise_X3_isSlot : GoodIn wsX3_raise (va_wsS RX3 84 yX3_isSlot wsX3_isSlot) := goodIn_app (goodIn_r _ [4, 5, 6] rfl (by decide +kernel)) ggX3_raise_X3_isSlot
theorem dX3_raise_0 : decode cX3_raise 0 = .ok (.iload_n 1, 1) := by decide +kernel
theorem dX3_raise_1 : decode cX3_raise 1 = .ok (.invokestatic 84, 3) := by decide +kernel
theorem dX3_raise_4 : decode cX3_raise 4 = .ok (.ifCond .ne 5, 3) := by decide +kernel
theorem dX3_raise_7 : decode cX3_raise 7 = .ok (.iconst (-1), 1) := by decide +kernel
theorem dX3_raise_8 : decode cX3_raise 8 = .ok (.ireturn, 1) := by decide +kernel
theorem dX3_raise_9 : decode cX3_raise 9 = .ok (.aload_n 0, 1) := by decide +kernel
theorem dX3_raise_10 : decode cX3_raise 10 = .ok (.getfield 7, 3) := by decide +kernel
theorem dX3_raise_13 : decode cX3_raise 13 = .ok (.iload_n 1, 1) := by decide +kernel
theorem dX3_raise_14 : decode cX3_raise 14 = .ok (.iaload, 1) := by decide +kernel
theorem dX3_raise_15 : decode cX3_raise 15 = .ok (.istore_n 2, 1) := by decide +kernel
theorem dX3_raise_16 : decode cX3_raise 16 = .ok (.iload_n 2, 1) := by decide +kernel
theorem dX3_raise_17 : decode cX3_raise 17 = .ok (.iconst (-1), 1) := by decide +kernel
theorem dX3_raise_18 : decode cX3_raise 18 = .ok (.if_icmp .ne 8, 3) := by decide +kernel
theorem dX3_raise_21 : decode cX3_raise 21 = .ok (.bipush (-11), 2) := by decide +kernel
theorem dX3_raise_23 : decode cX3_raise 23 = .ok (.goto 31, 3) := by decide +kernel
theorem dX3_raise_26 : decode cX3_raise 26 = .ok (.aload_n 0, 1) := by decide +kernel
theorem dX3_raise_27 : decode cX3_raise 27 = .ok (.getfield 13, 3) := by decide +kernel
theorem dX3_raise_30 : decode cX3_raise 30 = .ok (.iload_n 2, 1) := by decide +kernel
theorem dX3_raise_31 : decode cX3_raise 31 = .ok (.iaload, 1) := by decide +kernel
theorem dX3_raise_32 : decode cX3_raise 32 = .ok (.iconst 4, 1) := by decide +kernel
theorem dX3_raise_33 : decode cX3_raise 33 = .ok (.if_icmp .eq 8, 3) := by decide +kernel
theorem dX3_raise_36 : decode cX3_raise 36 = .ok (.bipush (-14), 2) := by decide +kernel
theorem dX3_raise_38 : decode cX3_raise 38 = .ok (.goto 16, 3) := by decide +kernel
theorem dX3_raise_41 : decode cX3_raise 41 = .ok (.aload_n 0, 1) := by decide +kernel
theorem dX3_raise_42 : decode cX3_raise 42 = .ok (.getfield 17, 3) := by decide +kernel
theorem dX3_raise_45 : decode cX3_raise 45 = .ok (.bipush 17, 2) := by decide +kernel
theorem dX3_raise_47 : decode cX3_raise 47 = .ok (.iload_n 2, 1) := by decide +kernel
theorem dX3_raise_48 : decode cX3_raise 48 = .ok (.imul, 1) := by decide +kernel
theorem dX3_raise_49 : decode cX3_raise 49 = .ok (.bipush 16, 2) := by decide +kernel
theorem dX3_raise_51 : decode cX3_raise 51 = .ok (.iadd, 1) := by decide +kernel
theorem dX3_raise_52 : decode cX3_raise 52 = .ok (.laload, 1) := by decide +kernel
theorem dX3_raise_53 : decode cX3_raise 53 = .ok (.l2i, 1) := by decide +kernel
theorem dX3_raise_54 : decode cX3_raise 54 = .ok (.ireturn, 1) := by decide +kernel
set_option maxRecDepth 20000 in
theorem ggX3_passes_X3_isSlot : GoodIn wsX3_passes wsX3_isSlot := goodIn_r _ [6, 7, 8, 9, 5, 10] rfl (by decide +kernel)
set_option maxRecDepth 20000 in
theorem gX3_passes_X3_isSlot : GoodIn wsX3_passes (va_wsS RX3 84 yX3_isSlot wsX3_isSlot) := goodIn_app (goodIn_r _ [3, 4, 5] rfl (by decide +kernel)) ggX3_passes_X3_isSlot
set_option maxRecDepth 20000 in
theorem ggX3_passes_X3_in : GoodIn wsX3_passes wsX3_in := goodIn_r _ [10] rfl (by decide +kernel)
set_option maxRecDepth 20000 in
theorem gX3_passes_X3_in : GoodIn wsX3_passes (va_wsS RX3 70 yX3_in wsX3_in) := goodIn_app (goodIn_r _ [8, 9, 5] rfl (by decide +kernel)) ggX3_passes_X3_in
set_option maxRecDepth 20000 in
theorem ggX3_passes_X3_raise : GoodIn wsX3_passes wsX3_raise := goodIn_r _ [14, 15, 16, 17, 3, 4, 5, 6, 7, 8, 9, 10, 18, 19, 20, 21, 22, 23, 24, 25, 26, 27, 28, 29, 30, 31, 32, 33, 34, 35, 36, 37, 38, 39, 40] rfl (by decide +kernel)
set_option maxRecDepth 20000 in
theorem gX3_passes_X3_raise : GoodIn wsX3_passes (wsV RX3 157 RX3 yX3_raise wsX3_raise) := goodIn_app (goodIn_r _ [11, 12, 13, 5] rfl (by decide +kernel)) ggX3_passes_X3_raise
theorem dX3_passes_0 : decode cX3_passes 0 = .ok (.iload_n 1, 1) := by decide +kernel
theorem dX3_passes_1 : decode cX3_passes 1 = .ok (.invokestatic 84, 3) := by decide +kernel
theorem dX3_passes_4 : decode cX3_passes 4 = .ok (.ifCond .eq 15, 3) := by decide +kernel
theorem dX3_passes_7 : decode cX3_passes 7 = .ok (.iload_n 2, 1) := by decide +kernel
theorem dX3_passes_8 : decode cX3_passes 8 = .ok (.i2l, 1) := by decide +kernel
theorem dX3_passes_9 : decode cX3_passes 9 = .ok (.lconst 1, 1) := by decide +kernel
theorem dX3_passes_10 : decode cX3_passes 10 = .ok (.ldc2_w 105, 3) := by decide +kernel
theorem dX3_passes_13 : decode cX3_passes 13 = .ok (.invokestatic 70, 3) := by decide +kernel
theorem dX3_passes_16 : decode cX3_passes 16 = .ok (.ifCond .ne 5, 3) := by decide +kernel
theorem dX3_passes_19 : decode cX3_passes 19 = .ok (.iconst (-1), 1) := by decide +kernel
theorem dX3_passes_20 : decode cX3_passes 20 = .ok (.ireturn, 1) := by decide +kernel
theorem dX3_passes_21 : decode cX3_passes 21 = .ok (.aload_n 0, 1) := by decide +kernel
theorem dX3_passes_22 : decode cX3_passes 22 = .ok (.iload_n 2, 1) := by decide +kernel
theorem dX3_passes_23 : decode cX3_passes 23 = .ok (.putfield 153, 3) := by decide +kernel
theorem dX3_passes_26 : decode cX3_passes 26 = .ok (.aload_n 0, 1) := by decide +kernel
theorem dX3_passes_27 : decode cX3_passes 27 = .ok (.iload_n 1, 1) := by decide +kernel
theorem dX3_passes_28 : decode cX3_passes 28 = .ok (.invokevirtual 157, 3) := by decide +kernel
theorem dX3_passes_31 : decode cX3_passes 31 = .ok (.ireturn, 1) := by decide +kernel
theorem dX3_passed_0 : decode cX3_passed 0 = .ok (.aload_n 0, 1) := by decide +kernel
theorem dX3_passed_1 : decode cX3_passed 1 = .ok (.getfield 153, 3) := by decide +kernel
theorem dX3_passed_4 : decode cX3_passed 4 = .ok (.ireturn, 1) := by decide +kernel
theorem dX3_tell_0 : decode cX3_tell 0 = .ok (.aload_n 0, 1) := by decide +kernel
theorem dX3_tell_1 : decode cX3_tell 1 = .ok (.getfield 160, 3) := by decide +kernel
theorem dX3_tell_4 : decode cX3_tell 4 = .ok (.sipush 300, 3) := by decide +kernel
theorem dX3_tell_7 : decode cX3_tell 7 = .ok (.if_icmp .ne 9, 3) := by decide +kernel
theorem dX3_tell_10 : decode cX3_tell 10 = .ok (.aload_n 0, 1) := by decide +kernel
theorem dX3_tell_11 : decode cX3_tell 11 = .ok (.iconst 0, 1) := by decide +kernel
theorem dX3_tell_12 : decode cX3_tell 12 = .ok (.putfield 163, 3) := by decide +kernel
theorem dX3_tell_15 : decode cX3_tell 15 = .ok (.return_, 1) := by decide +kernel
theorem dX3_tell_16 : decode cX3_tell 16 = .ok (.aload_n 0, 1) := by decide +kernel
theorem dX3_tell_17 : decode cX3_tell 17 = .ok (.getfield 47, 3) := by decide +kernel
theorem dX3_tell_20 : decode cX3_tell 20 = .ok (.aload_n 0, 1) := by decide +kernel
theorem dX3_tell_21 : decode cX3_tell 21 = .ok (.getfield 160, 3) := by decide +kernel
theorem dX3_tell_24 : decode cX3_tell 24 = .ok (.iload_n 1, 1) := by decide +kernel
theorem dX3_tell_25 : decode cX3_tell 25 = .ok (.iastore, 1) := by decide +kernel
theorem dX3_tell_26 : decode cX3_tell 26 = .ok (.aload_n 0, 1) := by decide +kernel
theorem dX3_tell_27 : decode cX3_tell 27 = .ok (.getfield 50, 3) := by decide +kernel
theorem dX3_tell_30 : decode cX3_tell 30 = .ok (.aload_n 0, 1) := by decide +kernel
theorem dX3_tell_31 : decode cX3_tell 31 = .ok (.getfield 160, 3) := by decide +kernel
theorem dX3_tell_34 : decode cX3_tell 34 = .ok (.iload_n 2, 1) := by decide +kernel
theorem dX3_tell_35 : decode cX3_tell 35 = .ok (.iastore, 1) := by decide +kernel
theorem dX3_tell_36 : decode cX3_tell 36 = .ok (.aload_n 0, 1) := by decide +kernel
theorem dX3_tell_37 : decode cX3_tell 37 = .ok (.getfield 53, 3) := by decide +kernel
theorem dX3_tell_40 : decode cX3_tell 40 = .ok (.aload_n 0, 1) := by decide +kernel
theorem dX3_tell_41 : decode cX3_tell 41 = .ok (.getfield 160, 3) := by decide +kernel
theorem dX3_tell_44 : decode cX3_tell 44 = .ok (.lload_n 3, 1) := by decide +kernel
theorem dX3_tell_45 : decode cX3_tell 45 = .ok (.lastore, 1) := by decide +kernel
theorem dX3_tell_46 : decode cX3_tell 46 = .ok (.aload_n 0, 1) := by decide +kernel
theorem dX3_tell_47 : decode cX3_tell 47 = .ok (.dup, 1) := by decide +kernel
theorem dX3_tell_48 : decode cX3_tell 48 = .ok (.getfield 160, 3) := by decide +kernel
theorem dX3_tell_51 : decode cX3_tell 51 = .ok (.iconst 1, 1) := by decide +kernel
theorem dX3_tell_52 : decode cX3_tell 52 = .ok (.iadd, 1) := by decide +kernel
theorem dX3_tell_53 : decode cX3_tell 53 = .ok (.putfield 160, 3) := by decide +kernel
theorem dX3_tell_56 : decode cX3_tell 56 = .ok (.return_, 1) := by decide +kernel
theorem dX3_numberOf_0 : decode cX3_numberOf 0 = .ok (.iconst 0, 1) := by decide +kernel
theorem dX3_numberOf_1 : decode cX3_numberOf 1 = .ok (.istore_n 2, 1) := by decide +kernel
theorem dX3_numberOf_2 : decode cX3_numberOf 2 = .ok (.iload_n 2, 1) := by decide +kernel
theorem dX3_numberOf_3 : decode cX3_numberOf 3 = .ok (.aload_n 0, 1) := by decide +kernel
theorem dX3_numberOf_4 : decode cX3_numberOf 4 = .ok (.getfield 167, 3) := by decide +kernel
theorem dX3_numberOf_7 : decode cX3_numberOf 7 = .ok (.if_icmp .ge 21, 3) := by decide +kernel
theorem dX3_numberOf_10 : decode cX3_numberOf 10 = .ok (.aload_n 0, 1) := by decide +kernel
theorem dX3_numberOf_11 : decode cX3_numberOf 11 = .ok (.getfield 44, 3) := by decide +kernel
theorem dX3_numberOf_14 : decode cX3_numberOf 14 = .ok (.iload_n 2, 1) := by decide +kernel
theorem dX3_numberOf_15 : decode cX3_numberOf 15 = .ok (.iaload, 1) := by decide +kernel
theorem dX3_numberOf_16 : decode cX3_numberOf 16 = .ok (.iload_n 1, 1) := by decide +kernel
theorem dX3_numberOf_17 : decode cX3_numberOf 17 = .ok (.if_icmp .ne 5, 3) := by decide +kernel
theorem dX3_numberOf_20 : decode cX3_numberOf 20 = .ok (.iload_n 2, 1) := by decide +kernel
theorem dX3_numberOf_21 : decode cX3_numberOf 21 = .ok (.ireturn, 1) := by decide +kernel
theorem dX3_numberOf_22 : decode cX3_numberOf 22 = .ok (.iinc 2 1, 3) := by decide +kernel
theorem dX3_numberOf_25 : decode cX3_numberOf 25 = .ok (.goto (-23), 3) := by decide +kernel
theorem dX3_numberOf_28 : decode cX3_numberOf 28 = .ok (.bipush (-4), 2) := by decide +kernel
theorem dX3_numberOf_30 : decode cX3_numberOf 30 = .ok (.ireturn, 1) := by decide +kernel
set_option maxRecDepth 20000 in
theorem ggX3_find_X3_isLink : GoodIn wsX3_find wsX3_isLink := goodIn_r _ [10] rfl (by decide +kernel)
set_option maxRecDepth 20000 in
theorem gX3_find_X3_isLink : GoodIn wsX3_find (va_wsS RX3 74 yX3_isLink wsX3_isLink) := goodIn_app (goodIn_r _ [7, 8, 9] rfl (by decide +kernel)) ggX3_find_X3_isLink
set_option maxRecDepth 20000 in
theorem ggX3_find_X3_has : GoodIn wsX3_find wsX3_has := goodIn_r _ [13] rfl (by decide +kernel)
set_option maxRecDepth 20000 in
theorem gX3_find_X3_has : GoodIn wsX3_find (va_wsS RX3 78 yX3_has wsX3_has) := goodIn_app (goodIn_r _ [11, 12, 9] rfl (by decide +kernel)) ggX3_find_X3_has
set_option maxRecDepth 20000 in
theorem ggX3_find_X3_numberOf : GoodIn wsX3_find wsX3_numberOf := goodIn_r _ [17, 1, 2, 32, 33, 34, 35, 36, 37, 38, 39, 40, 41, 42, 43, 44, 45, 46, 47, 48, 49, 50, 51, 52, 53, 54] rfl (by decide +kernel)
set_option maxRecDepth 20000 in
theorem gX3_find_X3_numberOf : GoodIn wsX3_find (wsV RX3 170 RX3 yX3_numberOf wsX3_numberOf) := goodIn_app (goodIn_r _ [14, 15, 16, 9] rfl (by decide +kernel)) ggX3_find_X3_numberOf
set_option maxRecDepth 20000 in
theorem ggX3_find_X3_tellObject : GoodIn wsX3_find wsX3_tellObject := goodIn_r _ [21, 5, 6, 22, 23, 24, 25, 26, 27, 9, 28, 3, 4, 29, 30, 31, 11, 12, 13, 7, 8, 10, 14, 15, 16, 17, 1, 2, 32, 33, 34, 35, 36, 37, 38, 39, 40, 41, 42, 43, 44, 45, 46, 47, 48, 49, 50, 51, 52, 53, 54] rfl (by decide +kernel)
set_option maxRecDepth 20000 in
theorem gX3_find_X3_tellObject : GoodIn wsX3_find (wsV RX3 173 RX3 yX3_tellObject wsX3_tellObject) := goodIn_app (goodIn_r _ [18, 19, 20, 9] rfl (by decide +kernel)) ggX3_find_X3_tellObject
theorem dX3_find_0 : decode cX3_find 0 = .ok (.aload_n 0, 1) := by decide +kernel
theorem dX3_find_1 : decode cX3_find 1 = .ok (.iconst 1, 1) := by decide +kernel
theorem dX3_find_2 : decode cX3_find 2 = .ok (.putfield 167, 3) := by decide +kernel
theorem dX3_find_5 : decode cX3_find 5 = .ok (.aload_n 0, 1) := by decide +kernel
theorem dX3_find_6 : decode cX3_find 6 = .ok (.getfield 44, 3) := by decide +kernel
theorem dX3_find_9 : decode cX3_find 9 = .ok (.iconst 0, 1) := by decide +kernel
theorem dX3_find_10 : decode cX3_find 10 = .ok (.iload_n 1, 1) := by decide +kernel
theorem dX3_find_11 : decode cX3_find 11 = .ok (.iastore, 1) := by decide +kernel
theorem dX3_find_12 : decode cX3_find 12 = .ok (.aload_n 0, 1) := by decide +kernel
theorem dX3_find_13 : decode cX3_find 13 = .ok (.iconst 0, 1) := by decide +kernel
theorem dX3_find_14 : decode cX3_find 14 = .ok (.putfield 160, 3) := by decide +kernel
theorem dX3_find_17 : decode cX3_find 17 = .ok (.aload_n 0, 1) := by decide +kernel
theorem dX3_find_18 : decode cX3_find 18 = .ok (.iconst 1, 1) := by decide +kernel
theorem dX3_find_19 : decode cX3_find 19 = .ok (.putfield 163, 3) := by decide +kernel
theorem dX3_find_22 : decode cX3_find 22 = .ok (.iconst 0, 1) := by decide +kernel
theorem dX3_find_23 : decode cX3_find 23 = .ok (.istore_n 2, 1) := by decide +kernel
theorem dX3_find_24 : decode cX3_find 24 = .ok (.iload_n 2, 1) := by decide +kernel
theorem dX3_find_25 : decode cX3_find 25 = .ok (.aload_n 0, 1) := by decide +kernel
theorem dX3_find_26 : decode cX3_find 26 = .ok (.getfield 167, 3) := by decide +kernel
theorem dX3_find_29 : decode cX3_find 29 = .ok (.if_icmp .ge 171, 3) := by decide +kernel
theorem dX3_find_32 : decode cX3_find 32 = .ok (.aload_n 0, 1) := by decide +kernel
theorem dX3_find_33 : decode cX3_find 33 = .ok (.getfield 163, 3) := by decide +kernel
theorem dX3_find_36 : decode cX3_find 36 = .ok (.ifCond .eq 164, 3) := by decide +kernel
theorem dX3_find_39 : decode cX3_find 39 = .ok (.aload_n 0, 1) := by decide +kernel
theorem dX3_find_40 : decode cX3_find 40 = .ok (.getfield 44, 3) := by decide +kernel
theorem dX3_find_43 : decode cX3_find 43 = .ok (.iload_n 2, 1) := by decide +kernel
theorem dX3_find_44 : decode cX3_find 44 = .ok (.iaload, 1) := by decide +kernel
theorem dX3_find_45 : decode cX3_find 45 = .ok (.istore_n 3, 1) := by decide +kernel
theorem dX3_find_46 : decode cX3_find 46 = .ok (.bipush 8, 2) := by decide +kernel
theorem dX3_find_48 : decode cX3_find 48 = .ok (.istore 4, 2) := by decide +kernel
theorem dX3_find_50 : decode cX3_find 50 = .ok (.iload 4, 2) := by decide +kernel
theorem dX3_find_52 : decode cX3_find 52 = .ok (.bipush 16, 2) := by decide +kernel
theorem dX3_find_54 : decode cX3_find 54 = .ok (.if_icmp .ge 140, 3) := by decide +kernel
theorem dX3_find_57 : decode cX3_find 57 = .ok (.iload 4, 2) := by decide +kernel
theorem dX3_find_59 : decode cX3_find 59 = .ok (.invokestatic 74, 3) := by decide +kernel
theorem dX3_find_62 : decode cX3_find 62 = .ok (.ifCond .eq 33, 3) := by decide +kernel
theorem dX3_find_65 : decode cX3_find 65 = .ok (.aload_n 0, 1) := by decide +kernel
theorem dX3_find_66 : decode cX3_find 66 = .ok (.getfield 13, 3) := by decide +kernel
theorem dX3_find_69 : decode cX3_find 69 = .ok (.iload_n 3, 1) := by decide +kernel
theorem dX3_find_70 : decode cX3_find 70 = .ok (.iaload, 1) := by decide +kernel
theorem dX3_find_71 : decode cX3_find 71 = .ok (.iload 4, 2) := by decide +kernel
theorem dX3_find_73 : decode cX3_find 73 = .ok (.invokestatic 78, 3) := by decide +kernel
theorem dX3_find_76 : decode cX3_find 76 = .ok (.ifCond .eq 19, 3) := by decide +kernel
theorem dX3_find_79 : decode cX3_find 79 = .ok (.aload_n 0, 1) := by decide +kernel
theorem dX3_find_80 : decode cX3_find 80 = .ok (.getfield 17, 3) := by decide +kernel
theorem dX3_find_83 : decode cX3_find 83 = .ok (.bipush 17, 2) := by decide +kernel
theorem dX3_find_85 : decode cX3_find 85 = .ok (.iload_n 3, 1) := by decide +kernel
theorem dX3_find_86 : decode cX3_find 86 = .ok (.imul, 1) := by decide +kernel
theorem dX3_find_87 : decode cX3_find 87 = .ok (.iload 4, 2) := by decide +kernel
theorem dX3_find_89 : decode cX3_find 89 = .ok (.iadd, 1) := by decide +kernel
theorem dX3_find_90 : decode cX3_find 90 = .ok (.laload, 1) := by decide +kernel
theorem dX3_find_91 : decode cX3_find 91 = .ok (.l2i, 1) := by decide +kernel
theorem dX3_find_92 : decode cX3_find 92 = .ok (.goto 4, 3) := by decide +kernel
theorem dX3_find_95 : decode cX3_find 95 = .ok (.iconst (-1), 1) := by decide +kernel
theorem dX3_find_96 : decode cX3_find 96 = .ok (.istore 5, 2) := by decide +kernel
theorem dX3_find_98 : decode cX3_find 98 = .ok (.iload 5, 2) := by decide +kernel
theorem dX3_find_100 : decode cX3_find 100 = .ok (.iconst (-1), 1) := by decide +kernel
theorem dX3_find_101 : decode cX3_find 101 = .ok (.if_icmp .eq 87, 3) := by decide +kernel
theorem dX3_find_104 : decode cX3_find 104 = .ok (.aload_n 0, 1) := by decide +kernel
theorem dX3_find_105 : decode cX3_find 105 = .ok (.iload 5, 2) := by decide +kernel
theorem dX3_find_107 : decode cX3_find 107 = .ok (.invokevirtual 170, 3) := by decide +kernel
theorem dX3_find_110 : decode cX3_find 110 = .ok (.bipush (-4), 2) := by decide +kernel
theorem dX3_find_112 : decode cX3_find 112 = .ok (.if_icmp .ne 76, 3) := by decide +kernel
theorem dX3_find_115 : decode cX3_find 115 = .ok (.aload_n 0, 1) := by decide +kernel
theorem dX3_find_116 : decode cX3_find 116 = .ok (.aload_n 0, 1) := by decide +kernel
theorem dX3_find_117 : decode cX3_find 117 = .ok (.getfield 163, 3) := by decide +kernel
theorem dX3_find_120 : decode cX3_find 120 = .ok (.ifCond .eq 16, 3) := by decide +kernel
theorem dX3_find_123 : decode cX3_find 123 = .ok (.aload_n 0, 1) := by decide +kernel
theorem dX3_find_124 : decode cX3_find 124 = .ok (.getfield 167, 3) := by decide +kernel
theorem dX3_find_127 : decode cX3_find 127 = .ok (.bipush 24, 2) := by decide +kernel
theorem dX3_find_129 : decode cX3_find 129 = .ok (.if_icmp .ge 7, 3) := by decide +kernel
theorem dX3_find_132 : decode cX3_find 132 = .ok (.iconst 1, 1) := by decide +kernel
theorem dX3_find_133 : decode cX3_find 133 = .ok (.goto 4, 3) := by decide +kernel
theorem dX3_find_136 : decode cX3_find 136 = .ok (.iconst 0, 1) := by decide +kernel
theorem dX3_find_137 : decode cX3_find 137 = .ok (.putfield 163, 3) := by decide +kernel
theorem dX3_find_140 : decode cX3_find 140 = .ok (.aload_n 0, 1) := by decide +kernel
theorem dX3_find_141 : decode cX3_find 141 = .ok (.getfield 44, 3) := by decide +kernel
theorem dX3_find_144 : decode cX3_find 144 = .ok (.aload_n 0, 1) := by decide +kernel
theorem dX3_find_145 : decode cX3_find 145 = .ok (.getfield 167, 3) := by decide +kernel
theorem dX3_find_148 : decode cX3_find 148 = .ok (.bipush 24, 2) := by decide +kernel
theorem dX3_find_150 : decode cX3_find 150 = .ok (.if_icmp .ge 10, 3) := by decide +kernel
theorem dX3_find_153 : decode cX3_find 153 = .ok (.aload_n 0, 1) := by decide +kernel
theorem dX3_find_154 : decode cX3_find 154 = .ok (.getfield 167, 3) := by decide +kernel
theorem dX3_find_157 : decode cX3_find 157 = .ok (.goto 5, 3) := by decide +kernel
theorem dX3_find_160 : decode cX3_find 160 = .ok (.bipush 24, 2) := by decide +kernel
theorem dX3_find_162 : decode cX3_find 162 = .ok (.iload 5, 2) := by decide +kernel
theorem dX3_find_164 : decode cX3_find 164 = .ok (.iastore, 1) := by decide +kernel
theorem dX3_find_165 : decode cX3_find 165 = .ok (.aload_n 0, 1) := by decide +kernel
theorem dX3_find_166 : decode cX3_find 166 = .ok (.dup, 1) := by decide +kernel
theorem dX3_find_167 : decode cX3_find 167 = .ok (.getfield 167, 3) := by decide +kernel
theorem dX3_find_170 : decode cX3_find 170 = .ok (.aload_n 0, 1) := by decide +kernel
theorem dX3_find_171 : decode cX3_find 171 = .ok (.getfield 167, 3) := by decide +kernel
theorem dX3_find_174 : decode cX3_find 174 = .ok (.bipush 24, 2) := by decide +kernel
theorem dX3_find_176 : decode cX3_find 176 = .ok (.if_icmp .ge 7, 3) := by decide +kernel
theorem dX3_find_179 : decode cX3_find 179 = .ok (.iconst 1, 1) := by decide +kernel
theorem dX3_find_180 : decode cX3_find 180 = .ok (.goto 4, 3) := by decide +kernel
theorem dX3_find_183 : decode cX3_find 183 = .ok (.iconst 0, 1) := by decide +kernel
theorem dX3_find_184 : decode cX3_find 184 = .ok (.iadd, 1) := by decide +kernel
theorem dX3_find_185 : decode cX3_find 185 = .ok (.putfield 167, 3) := by decide +kernel
theorem dX3_find_188 : decode cX3_find 188 = .ok (.iinc 4 1, 3) := by decide +kernel
theorem dX3_find_191 : decode cX3_find 191 = .ok (.goto (-141), 3) := by decide +kernel
theorem dX3_find_194 : decode cX3_find 194 = .ok (.iinc 2 1, 3) := by decide +kernel
theorem dX3_find_197 : decode cX3_find 197 = .ok (.goto (-173), 3) := by decide +kernel
theorem dX3_find_200 : decode cX3_find 200 = .ok (.iconst 0, 1) := by decide +kernel
theorem dX3_find_201 : decode cX3_find 201 = .ok (.istore_n 2, 1) := by decide +kernel
theorem dX3_find_202 : decode cX3_find 202 = .ok (.iload_n 2, 1) := by decide +kernel
theorem dX3_find_203 : decode cX3_find 203 = .ok (.aload_n 0, 1) := by decide +kernel
theorem dX3_find_204 : decode cX3_find 204 = .ok (.getfield 167, 3) := by decide +kernel
theorem dX3_find_207 : decode cX3_find 207 = .ok (.if_icmp .ge 27, 3) := by decide +kernel
theorem dX3_find_210 : decode cX3_find 210 = .ok (.aload_n 0, 1) := by decide +kernel
theorem dX3_find_211 : decode cX3_find 211 = .ok (.getfield 163, 3) := by decide +kernel
theorem dX3_find_214 : decode cX3_find 214 = .ok (.ifCond .eq 20, 3) := by decide +kernel
theorem dX3_find_217 : decode cX3_find 217 = .ok (.aload_n 0, 1) := by decide +kernel
theorem dX3_find_218 : decode cX3_find 218 = .ok (.iload_n 2, 1) := by decide +kernel
theorem dX3_find_219 : decode cX3_find 219 = .ok (.aload_n 0, 1) := by decide +kernel
theorem dX3_find_220 : decode cX3_find 220 = .ok (.getfield 44, 3) := by decide +kernel
theorem dX3_find_223 : decode cX3_find 223 = .ok (.iload_n 2, 1) := by decide +kernel
theorem dX3_find_224 : decode cX3_find 224 = .ok (.iaload, 1) := by decide +kernel
theorem dX3_find_225 : decode cX3_find 225 = .ok (.invokevirtual 173, 3) := by decide +kernel
theorem dX3_find_228 : decode cX3_find 228 = .ok (.iinc 2 1, 3) := by decide +kernel
theorem dX3_find_231 : decode cX3_find 231 = .ok (.goto (-29), 3) := by decide +kernel
theorem dX3_find_234 : decode cX3_find 234 = .ok (.aload_n 0, 1) := by decide +kernel
theorem dX3_find_235 : decode cX3_find 235 = .ok (.getfield 163, 3) := by decide +kernel
theorem dX3_find_238 : decode cX3_find 238 = .ok (.ireturn, 1) := by decide +kernel
set_option maxRecDepth 20000 in
theorem ggX3_tellObject_X3_tell : GoodIn wsX3_tellObject wsX3_tell := goodIn_r _ [10, 11, 12, 13, 14, 15, 28, 29, 30, 31, 32, 33, 34, 35, 36, 37, 38, 39, 40, 41, 42, 43, 44, 45, 46, 47, 48, 49, 50] rfl (by decide +kernel)
set_option maxRecDepth 20000 in
theorem gX3_tellObject_X3_tell : GoodIn wsX3_tellObject (wsV RX3 177 RX3 yX3_tell wsX3_tell) := goodIn_app (goodIn_r _ [6, 7, 8, 9] rfl (by decide +kernel)) ggX3_tellObject_X3_tell
set_option maxRecDepth 20000 in
theorem ggX3_tellObject_X3_has : GoodIn wsX3_tellObject wsX3_has := goodIn_r _ [18] rfl (by decide +kernel)
set_option maxRecDepth 20000 in
theorem gX3_tellObject_X3_has : GoodIn wsX3_tellObject (va_wsS RX3 78 yX3_has wsX3_has) := goodIn_app (goodIn_r _ [16, 17, 9] rfl (by decide +kernel)) ggX3_tellObject_X3_has
set_option maxRecDepth 20000 in
theorem ggX3_tellObject_X3_isLink : GoodIn wsX3_tellObject wsX3_isLink := goodIn_r _ [21] rfl (by decide +kernel)
set_option maxRecDepth 20000 in
theorem gX3_tellObject_X3_isLink : GoodIn wsX3_tellObject (va_wsS RX3 74 yX3_isLink wsX3_isLink) := goodIn_app (goodIn_r _ [19, 20, 9] rfl (by decide +kernel)) ggX3_tellObject_X3_isLink
set_option maxRecDepth 20000 in
theorem ggX3_tellObject_X3_numberOf : GoodIn wsX3_tellObject wsX3_numberOf := goodIn_r _ [25, 26, 27, 28, 29, 30, 31, 32, 33, 34, 35, 36, 37, 38, 39, 40, 41, 42, 43, 44, 45, 46, 47, 48, 49, 50] rfl (by decide +kernel)
set_option maxRecDepth 20000 in
theorem gX3_tellObject_X3_numberOf : GoodIn wsX3_tellObject (wsV RX3 170 RX3 yX3_numberOf wsX3_numberOf) := goodIn_app (goodIn_r _ [22, 23, 24, 9] rfl (by decide +kernel)) ggX3_tellObject_X3_numberOf
