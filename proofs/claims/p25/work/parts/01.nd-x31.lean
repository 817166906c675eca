theorem bnd_x31_0 : decs cX3_link [(0, .iload_n 1, 1), (1, .invokestatic 84, 3), (4, .ifCond .eq 17, 3), (7, .iload_n 2, 1), (8, .invokestatic 74, 3), (11, .ifCond .eq 10, 3), (14, .iload_n 3, 1), (15, .invokestatic 84, 3), (18, .ifCond .ne 5, 3), (21, .iconst (-1), 1), (22, .ireturn, 1), (23, .aload_n 0, 1), (24, .iload_n 1, 1), (25, .iload_n 2, 1), (26, .invokevirtual 126, 3), (29, .ifCond .ne 31, 3), (32, .aload_n 0, 1), (33, .getfield 7, 3), (36, .iload_n 3, 1), (37, .iaload, 1), (38, .iconst (-1), 1), (39, .if_icmp .eq 24, 3), (42, .aload_n 0, 1), (43, .getfield 13, 3)] = true := by decide +kernel
theorem dX3_link_0 : decode cX3_link 0 = .ok (.iload_n 1, 1) := decs_at bnd_x31_0 0 (x := (0, .iload_n 1, 1)) rfl
theorem dX3_link_1 : decode cX3_link 1 = .ok (.invokestatic 84, 3) := decs_at bnd_x31_0 1 (x := (1, .invokestatic 84, 3)) rfl
theorem dX3_link_4 : decode cX3_link 4 = .ok (.ifCond .eq 17, 3) := decs_at bnd_x31_0 2 (x := (4, .ifCond .eq 17, 3)) rfl
theorem dX3_link_7 : decode cX3_link 7 = .ok (.iload_n 2, 1) := decs_at bnd_x31_0 3 (x := (7, .iload_n 2, 1)) rfl
theorem dX3_link_8 : decode cX3_link 8 = .ok (.invokestatic 74, 3) := decs_at bnd_x31_0 4 (x := (8, .invokestatic 74, 3)) rfl
theorem dX3_link_11 : decode cX3_link 11 = .ok (.ifCond .eq 10, 3) := decs_at bnd_x31_0 5 (x := (11, .ifCond .eq 10, 3)) rfl
theorem dX3_link_14 : decode cX3_link 14 = .ok (.iload_n 3, 1) := decs_at bnd_x31_0 6 (x := (14, .iload_n 3, 1)) rfl
theorem dX3_link_15 : decode cX3_link 15 = .ok (.invokestatic 84, 3) := decs_at bnd_x31_0 7 (x := (15, .invokestatic 84, 3)) rfl
theorem dX3_link_18 : decode cX3_link 18 = .ok (.ifCond .ne 5, 3) := decs_at bnd_x31_0 8 (x := (18, .ifCond .ne 5, 3)) rfl
theorem dX3_link_21 : decode cX3_link 21 = .ok (.iconst (-1), 1) := decs_at bnd_x31_0 9 (x := (21, .iconst (-1), 1)) rfl
theorem dX3_link_22 : decode cX3_link 22 = .ok (.ireturn, 1) := decs_at bnd_x31_0 10 (x := (22, .ireturn, 1)) rfl
theorem dX3_link_23 : decode cX3_link 23 = .ok (.aload_n 0, 1) := decs_at bnd_x31_0 11 (x := (23, .aload_n 0, 1)) rfl
theorem dX3_link_24 : decode cX3_link 24 = .ok (.iload_n 1, 1) := decs_at bnd_x31_0 12 (x := (24, .iload_n 1, 1)) rfl
theorem dX3_link_25 : decode cX3_link 25 = .ok (.iload_n 2, 1) := decs_at bnd_x31_0 13 (x := (25, .iload_n 2, 1)) rfl
theorem dX3_link_26 : decode cX3_link 26 = .ok (.invokevirtual 126, 3) := decs_at bnd_x31_0 14 (x := (26, .invokevirtual 126, 3)) rfl
theorem dX3_link_29 : decode cX3_link 29 = .ok (.ifCond .ne 31, 3) := decs_at bnd_x31_0 15 (x := (29, .ifCond .ne 31, 3)) rfl
theorem dX3_link_32 : decode cX3_link 32 = .ok (.aload_n 0, 1) := decs_at bnd_x31_0 16 (x := (32, .aload_n 0, 1)) rfl
theorem dX3_link_33 : decode cX3_link 33 = .ok (.getfield 7, 3) := decs_at bnd_x31_0 17 (x := (33, .getfield 7, 3)) rfl
theorem dX3_link_36 : decode cX3_link 36 = .ok (.iload_n 3, 1) := decs_at bnd_x31_0 18 (x := (36, .iload_n 3, 1)) rfl
theorem dX3_link_37 : decode cX3_link 37 = .ok (.iaload, 1) := decs_at bnd_x31_0 19 (x := (37, .iaload, 1)) rfl
theorem dX3_link_38 : decode cX3_link 38 = .ok (.iconst (-1), 1) := decs_at bnd_x31_0 20 (x := (38, .iconst (-1), 1)) rfl
theorem dX3_link_39 : decode cX3_link 39 = .ok (.if_icmp .eq 24, 3) := decs_at bnd_x31_0 21 (x := (39, .if_icmp .eq 24, 3)) rfl
theorem dX3_link_42 : decode cX3_link 42 = .ok (.aload_n 0, 1) := decs_at bnd_x31_0 22 (x := (42, .aload_n 0, 1)) rfl
theorem dX3_link_43 : decode cX3_link 43 = .ok (.getfield 13, 3) := decs_at bnd_x31_0 23 (x := (43, .getfield 13, 3)) rfl
theorem bnd_x31_1 : decs cX3_link [(46, .aload_n 0, 1), (47, .getfield 7, 3), (50, .iload_n 3, 1), (51, .iaload, 1), (52, .iaload, 1), (53, .iload_n 2, 1), (54, .invokestatic 135, 3), (57, .ifCond .ne 6, 3), (60, .bipush (-14), 2), (62, .ireturn, 1), (63, .aload_n 0, 1), (64, .getfield 7, 3), (67, .iload_n 1, 1), (68, .iaload, 1), (69, .iconst (-1), 1), (70, .if_icmp .ne 6, 3), (73, .bipush (-11), 2), (75, .ireturn, 1), (76, .aload_n 0, 1), (77, .getfield 17, 3), (80, .bipush 17, 2), (82, .aload_n 0, 1), (83, .getfield 7, 3), (86, .iload_n 1, 1)] = true := by decide +kernel
theorem dX3_link_46 : decode cX3_link 46 = .ok (.aload_n 0, 1) := decs_at bnd_x31_1 0 (x := (46, .aload_n 0, 1)) rfl
theorem dX3_link_47 : decode cX3_link 47 = .ok (.getfield 7, 3) := decs_at bnd_x31_1 1 (x := (47, .getfield 7, 3)) rfl
theorem dX3_link_50 : decode cX3_link 50 = .ok (.iload_n 3, 1) := decs_at bnd_x31_1 2 (x := (50, .iload_n 3, 1)) rfl
theorem dX3_link_51 : decode cX3_link 51 = .ok (.iaload, 1) := decs_at bnd_x31_1 3 (x := (51, .iaload, 1)) rfl
theorem dX3_link_52 : decode cX3_link 52 = .ok (.iaload, 1) := decs_at bnd_x31_1 4 (x := (52, .iaload, 1)) rfl
theorem dX3_link_53 : decode cX3_link 53 = .ok (.iload_n 2, 1) := decs_at bnd_x31_1 5 (x := (53, .iload_n 2, 1)) rfl
theorem dX3_link_54 : decode cX3_link 54 = .ok (.invokestatic 135, 3) := decs_at bnd_x31_1 6 (x := (54, .invokestatic 135, 3)) rfl
theorem dX3_link_57 : decode cX3_link 57 = .ok (.ifCond .ne 6, 3) := decs_at bnd_x31_1 7 (x := (57, .ifCond .ne 6, 3)) rfl
theorem dX3_link_60 : decode cX3_link 60 = .ok (.bipush (-14), 2) := decs_at bnd_x31_1 8 (x := (60, .bipush (-14), 2)) rfl
theorem dX3_link_62 : decode cX3_link 62 = .ok (.ireturn, 1) := decs_at bnd_x31_1 9 (x := (62, .ireturn, 1)) rfl
theorem dX3_link_63 : decode cX3_link 63 = .ok (.aload_n 0, 1) := decs_at bnd_x31_1 10 (x := (63, .aload_n 0, 1)) rfl
theorem dX3_link_64 : decode cX3_link 64 = .ok (.getfield 7, 3) := decs_at bnd_x31_1 11 (x := (64, .getfield 7, 3)) rfl
theorem dX3_link_67 : decode cX3_link 67 = .ok (.iload_n 1, 1) := decs_at bnd_x31_1 12 (x := (67, .iload_n 1, 1)) rfl
theorem dX3_link_68 : decode cX3_link 68 = .ok (.iaload, 1) := decs_at bnd_x31_1 13 (x := (68, .iaload, 1)) rfl
theorem dX3_link_69 : decode cX3_link 69 = .ok (.iconst (-1), 1) := decs_at bnd_x31_1 14 (x := (69, .iconst (-1), 1)) rfl
theorem dX3_link_70 : decode cX3_link 70 = .ok (.if_icmp .ne 6, 3) := decs_at bnd_x31_1 15 (x := (70, .if_icmp .ne 6, 3)) rfl
theorem dX3_link_73 : decode cX3_link 73 = .ok (.bipush (-11), 2) := decs_at bnd_x31_1 16 (x := (73, .bipush (-11), 2)) rfl
theorem dX3_link_75 : decode cX3_link 75 = .ok (.ireturn, 1) := decs_at bnd_x31_1 17 (x := (75, .ireturn, 1)) rfl
theorem dX3_link_76 : decode cX3_link 76 = .ok (.aload_n 0, 1) := decs_at bnd_x31_1 18 (x := (76, .aload_n 0, 1)) rfl
theorem dX3_link_77 : decode cX3_link 77 = .ok (.getfield 17, 3) := decs_at bnd_x31_1 19 (x := (77, .getfield 17, 3)) rfl
theorem dX3_link_80 : decode cX3_link 80 = .ok (.bipush 17, 2) := decs_at bnd_x31_1 20 (x := (80, .bipush 17, 2)) rfl
theorem dX3_link_82 : decode cX3_link 82 = .ok (.aload_n 0, 1) := decs_at bnd_x31_1 21 (x := (82, .aload_n 0, 1)) rfl
theorem dX3_link_83 : decode cX3_link 83 = .ok (.getfield 7, 3) := decs_at bnd_x31_1 22 (x := (83, .getfield 7, 3)) rfl
theorem dX3_link_86 : decode cX3_link 86 = .ok (.iload_n 1, 1) := decs_at bnd_x31_1 23 (x := (86, .iload_n 1, 1)) rfl
theorem bnd_x31_2 : decs cX3_link [(87, .iaload, 1), (88, .imul, 1), (89, .iload_n 2, 1), (90, .iadd, 1), (91, .aload_n 0, 1), (92, .getfield 7, 3), (95, .iload_n 3, 1), (96, .iaload, 1), (97, .i2l, 1), (98, .lastore, 1), (99, .iconst 1, 1), (100, .ireturn, 1)] = true := by decide +kernel
theorem dX3_link_87 : decode cX3_link 87 = .ok (.iaload, 1) := decs_at bnd_x31_2 0 (x := (87, .iaload, 1)) rfl
theorem dX3_link_88 : decode cX3_link 88 = .ok (.imul, 1) := decs_at bnd_x31_2 1 (x := (88, .imul, 1)) rfl
theorem dX3_link_89 : decode cX3_link 89 = .ok (.iload_n 2, 1) := decs_at bnd_x31_2 2 (x := (89, .iload_n 2, 1)) rfl
theorem dX3_link_90 : decode cX3_link 90 = .ok (.iadd, 1) := decs_at bnd_x31_2 3 (x := (90, .iadd, 1)) rfl
theorem dX3_link_91 : decode cX3_link 91 = .ok (.aload_n 0, 1) := decs_at bnd_x31_2 4 (x := (91, .aload_n 0, 1)) rfl
theorem dX3_link_92 : decode cX3_link 92 = .ok (.getfield 7, 3) := decs_at bnd_x31_2 5 (x := (92, .getfield 7, 3)) rfl
theorem dX3_link_95 : decode cX3_link 95 = .ok (.iload_n 3, 1) := decs_at bnd_x31_2 6 (x := (95, .iload_n 3, 1)) rfl
theorem dX3_link_96 : decode cX3_link 96 = .ok (.iaload, 1) := decs_at bnd_x31_2 7 (x := (96, .iaload, 1)) rfl
theorem dX3_link_97 : decode cX3_link 97 = .ok (.i2l, 1) := decs_at bnd_x31_2 8 (x := (97, .i2l, 1)) rfl
theorem dX3_link_98 : decode cX3_link 98 = .ok (.lastore, 1) := decs_at bnd_x31_2 9 (x := (98, .lastore, 1)) rfl
theorem dX3_link_99 : decode cX3_link 99 = .ok (.iconst 1, 1) := decs_at bnd_x31_2 10 (x := (99, .iconst 1, 1)) rfl
theorem dX3_link_100 : decode cX3_link 100 = .ok (.ireturn, 1) := decs_at bnd_x31_2 11 (x := (100, .ireturn, 1)) rfl
set_option maxRecDepth 20000 in
theorem ggX3_follow_X3_isSlot : GoodIn wsX3_follow wsX3_isSlot := goodIn_r _ [6, 7, 8, 9, 5, 10] rfl (by decide +kernel)
set_option maxRecDepth 20000 in
theorem gX3_follow_X3_isSlot : GoodIn wsX3_follow (va_wsS RX3 84 yX3_isSlot wsX3_isSlot) := goodIn_app (goodIn_r _ [3, 4, 5] rfl (by decide +kernel)) ggX3_follow_X3_isSlot
set_option maxRecDepth 20000 in
theorem ggX3_follow_X3_isLink : GoodIn wsX3_follow wsX3_isLink := goodIn_r _ [13] rfl (by decide +kernel)
set_option maxRecDepth 20000 in
theorem gX3_follow_X3_isLink : GoodIn wsX3_follow (va_wsS RX3 74 yX3_isLink wsX3_isLink) := goodIn_app (goodIn_r _ [11, 12, 5] rfl (by decide +kernel)) ggX3_follow_X3_isLink
set_option maxRecDepth 20000 in
theorem ggX3_follow_X3_isOther : GoodIn wsX3_follow wsX3_isOther := goodIn_r _ [17, 1, 18, 19, 20, 5, 21, 22, 23, 24, 25, 26, 27, 28, 29, 30, 31, 32, 33, 34, 35, 36, 37, 38, 39, 40, 41, 42, 43, 44] rfl (by decide +kernel)
set_option maxRecDepth 20000 in
theorem gX3_follow_X3_isOther : GoodIn wsX3_follow (wsV RX3 126 RX3 yX3_isOther wsX3_isOther) := goodIn_app (goodIn_r _ [14, 15, 16, 5] rfl (by decide +kernel)) ggX3_follow_X3_isOther
theorem bnd_x31_3 : decs cX3_follow [(0, .iload_n 1, 1), (1, .invokestatic 84, 3), (4, .ifCond .eq 17, 3), (7, .iload_n 2, 1), (8, .invokestatic 74, 3), (11, .ifCond .eq 10, 3), (14, .iload_n 3, 1), (15, .invokestatic 84, 3), (18, .ifCond .ne 5, 3), (21, .iconst (-1), 1), (22, .ireturn, 1), (23, .aload_n 0, 1), (24, .getfield 7, 3), (27, .iload_n 1, 1), (28, .iaload, 1), (29, .iconst (-1), 1), (30, .if_icmp .eq 12, 3), (33, .aload_n 0, 1), (34, .iload_n 1, 1), (35, .iload_n 2, 1), (36, .invokevirtual 126, 3), (39, .ifCond .eq 21, 3), (42, .aload_n 0, 1), (43, .getfield 7, 3)] = true := by decide +kernel
theorem dX3_follow_0 : decode cX3_follow 0 = .ok (.iload_n 1, 1) := decs_at bnd_x31_3 0 (x := (0, .iload_n 1, 1)) rfl
theorem dX3_follow_1 : decode cX3_follow 1 = .ok (.invokestatic 84, 3) := decs_at bnd_x31_3 1 (x := (1, .invokestatic 84, 3)) rfl
theorem dX3_follow_4 : decode cX3_follow 4 = .ok (.ifCond .eq 17, 3) := decs_at bnd_x31_3 2 (x := (4, .ifCond .eq 17, 3)) rfl
theorem dX3_follow_7 : decode cX3_follow 7 = .ok (.iload_n 2, 1) := decs_at bnd_x31_3 3 (x := (7, .iload_n 2, 1)) rfl
theorem dX3_follow_8 : decode cX3_follow 8 = .ok (.invokestatic 74, 3) := decs_at bnd_x31_3 4 (x := (8, .invokestatic 74, 3)) rfl
theorem dX3_follow_11 : decode cX3_follow 11 = .ok (.ifCond .eq 10, 3) := decs_at bnd_x31_3 5 (x := (11, .ifCond .eq 10, 3)) rfl
theorem dX3_follow_14 : decode cX3_follow 14 = .ok (.iload_n 3, 1) := decs_at bnd_x31_3 6 (x := (14, .iload_n 3, 1)) rfl
theorem dX3_follow_15 : decode cX3_follow 15 = .ok (.invokestatic 84, 3) := decs_at bnd_x31_3 7 (x := (15, .invokestatic 84, 3)) rfl
theorem dX3_follow_18 : decode cX3_follow 18 = .ok (.ifCond .ne 5, 3) := decs_at bnd_x31_3 8 (x := (18, .ifCond .ne 5, 3)) rfl
theorem dX3_follow_21 : decode cX3_follow 21 = .ok (.iconst (-1), 1) := decs_at bnd_x31_3 9 (x := (21, .iconst (-1), 1)) rfl
theorem dX3_follow_22 : decode cX3_follow 22 = .ok (.ireturn, 1) := decs_at bnd_x31_3 10 (x := (22, .ireturn, 1)) rfl
theorem dX3_follow_23 : decode cX3_follow 23 = .ok (.aload_n 0, 1) := decs_at bnd_x31_3 11 (x := (23, .aload_n 0, 1)) rfl
theorem dX3_follow_24 : decode cX3_follow 24 = .ok (.getfield 7, 3) := decs_at bnd_x31_3 12 (x := (24, .getfield 7, 3)) rfl
theorem dX3_follow_27 : decode cX3_follow 27 = .ok (.iload_n 1, 1) := decs_at bnd_x31_3 13 (x := (27, .iload_n 1, 1)) rfl
theorem dX3_follow_28 : decode cX3_follow 28 = .ok (.iaload, 1) := decs_at bnd_x31_3 14 (x := (28, .iaload, 1)) rfl
theorem dX3_follow_29 : decode cX3_follow 29 = .ok (.iconst (-1), 1) := decs_at bnd_x31_3 15 (x := (29, .iconst (-1), 1)) rfl
theorem dX3_follow_30 : decode cX3_follow 30 = .ok (.if_icmp .eq 12, 3) := decs_at bnd_x31_3 16 (x := (30, .if_icmp .eq 12, 3)) rfl
theorem dX3_follow_33 : decode cX3_follow 33 = .ok (.aload_n 0, 1) := decs_at bnd_x31_3 17 (x := (33, .aload_n 0, 1)) rfl
theorem dX3_follow_34 : decode cX3_follow 34 = .ok (.iload_n 1, 1) := decs_at bnd_x31_3 18 (x := (34, .iload_n 1, 1)) rfl
theorem dX3_follow_35 : decode cX3_follow 35 = .ok (.iload_n 2, 1) := decs_at bnd_x31_3 19 (x := (35, .iload_n 2, 1)) rfl
theorem dX3_follow_36 : decode cX3_follow 36 = .ok (.invokevirtual 126, 3) := decs_at bnd_x31_3 20 (x := (36, .invokevirtual 126, 3)) rfl
theorem dX3_follow_39 : decode cX3_follow 39 = .ok (.ifCond .eq 21, 3) := decs_at bnd_x31_3 21 (x := (39, .ifCond .eq 21, 3)) rfl
theorem dX3_follow_42 : decode cX3_follow 42 = .ok (.aload_n 0, 1) := decs_at bnd_x31_3 22 (x := (42, .aload_n 0, 1)) rfl
theorem dX3_follow_43 : decode cX3_follow 43 = .ok (.getfield 7, 3) := decs_at bnd_x31_3 23 (x := (43, .getfield 7, 3)) rfl
theorem bnd_x31_4 : decs cX3_follow [(46, .iload_n 1, 1), (47, .iaload, 1), (48, .iconst (-1), 1), (49, .if_icmp .ne 8, 3), (52, .bipush (-11), 2), (54, .goto 5, 3), (57, .bipush (-14), 2), (59, .ireturn, 1), (60, .aload_n 0, 1), (61, .getfield 7, 3), (64, .iload_n 3, 1), (65, .aload_n 0, 1), (66, .getfield 17, 3), (69, .bipush 17, 2), (71, .aload_n 0, 1), (72, .getfield 7, 3), (75, .iload_n 1, 1), (76, .iaload, 1), (77, .imul, 1), (78, .iload_n 2, 1), (79, .iadd, 1), (80, .laload, 1), (81, .l2i, 1), (82, .iastore, 1)] = true := by decide +kernel
theorem dX3_follow_46 : decode cX3_follow 46 = .ok (.iload_n 1, 1) := decs_at bnd_x31_4 0 (x := (46, .iload_n 1, 1)) rfl
theorem dX3_follow_47 : decode cX3_follow 47 = .ok (.iaload, 1) := decs_at bnd_x31_4 1 (x := (47, .iaload, 1)) rfl
theorem dX3_follow_48 : decode cX3_follow 48 = .ok (.iconst (-1), 1) := decs_at bnd_x31_4 2 (x := (48, .iconst (-1), 1)) rfl
theorem dX3_follow_49 : decode cX3_follow 49 = .ok (.if_icmp .ne 8, 3) := decs_at bnd_x31_4 3 (x := (49, .if_icmp .ne 8, 3)) rfl
theorem dX3_follow_52 : decode cX3_follow 52 = .ok (.bipush (-11), 2) := decs_at bnd_x31_4 4 (x := (52, .bipush (-11), 2)) rfl
theorem dX3_follow_54 : decode cX3_follow 54 = .ok (.goto 5, 3) := decs_at bnd_x31_4 5 (x := (54, .goto 5, 3)) rfl
theorem dX3_follow_57 : decode cX3_follow 57 = .ok (.bipush (-14), 2) := decs_at bnd_x31_4 6 (x := (57, .bipush (-14), 2)) rfl
theorem dX3_follow_59 : decode cX3_follow 59 = .ok (.ireturn, 1) := decs_at bnd_x31_4 7 (x := (59, .ireturn, 1)) rfl
theorem dX3_follow_60 : decode cX3_follow 60 = .ok (.aload_n 0, 1) := decs_at bnd_x31_4 8 (x := (60, .aload_n 0, 1)) rfl
theorem dX3_follow_61 : decode cX3_follow 61 = .ok (.getfield 7, 3) := decs_at bnd_x31_4 9 (x := (61, .getfield 7, 3)) rfl
theorem dX3_follow_64 : decode cX3_follow 64 = .ok (.iload_n 3, 1) := decs_at bnd_x31_4 10 (x := (64, .iload_n 3, 1)) rfl
theorem dX3_follow_65 : decode cX3_follow 65 = .ok (.aload_n 0, 1) := decs_at bnd_x31_4 11 (x := (65, .aload_n 0, 1)) rfl
theorem dX3_follow_66 : decode cX3_follow 66 = .ok (.getfield 17, 3) := decs_at bnd_x31_4 12 (x := (66, .getfield 17, 3)) rfl
theorem dX3_follow_69 : decode cX3_follow 69 = .ok (.bipush 17, 2) := decs_at bnd_x31_4 13 (x := (69, .bipush 17, 2)) rfl
theorem dX3_follow_71 : decode cX3_follow 71 = .ok (.aload_n 0, 1) := decs_at bnd_x31_4 14 (x := (71, .aload_n 0, 1)) rfl
theorem dX3_follow_72 : decode cX3_follow 72 = .ok (.getfield 7, 3) := decs_at bnd_x31_4 15 (x := (72, .getfield 7, 3)) rfl
theorem dX3_follow_75 : decode cX3_follow 75 = .ok (.iload_n 1, 1) := decs_at bnd_x31_4 16 (x := (75, .iload_n 1, 1)) rfl
theorem dX3_follow_76 : decode cX3_follow 76 = .ok (.iaload, 1) := decs_at bnd_x31_4 17 (x := (76, .iaload, 1)) rfl
theorem dX3_follow_77 : decode cX3_follow 77 = .ok (.imul, 1) := decs_at bnd_x31_4 18 (x := (77, .imul, 1)) rfl
theorem dX3_follow_78 : decode cX3_follow 78 = .ok (.iload_n 2, 1) := decs_at bnd_x31_4 19 (x := (78, .iload_n 2, 1)) rfl
theorem dX3_follow_79 : decode cX3_follow 79 = .ok (.iadd, 1) := decs_at bnd_x31_4 20 (x := (79, .iadd, 1)) rfl
theorem dX3_follow_80 : decode cX3_follow 80 = .ok (.laload, 1) := decs_at bnd_x31_4 21 (x := (80, .laload, 1)) rfl
theorem dX3_follow_81 : decode cX3_follow 81 = .ok (.l2i, 1) := decs_at bnd_x31_4 22 (x := (81, .l2i, 1)) rfl
theorem dX3_follow_82 : decode cX3_follow 82 = .ok (.iastore, 1) := decs_at bnd_x31_4 23 (x := (82, .iastore, 1)) rfl
theorem dX3_follow_83 : decode cX3_follow 83 = .ok (.iconst 1, 1) := by decide +kernel
theorem dX3_follow_84 : decode cX3_follow 84 = .ok (.ireturn, 1) := by decide +kernel
set_option maxRecDepth 20000 in
theorem ggX3_row_X3_isSlot : GoodIn wsX3_row wsX3_isSlot := goodIn_r _ [7, 8, 9, 10, 6, 11] rfl (by decide +kernel)
set_option maxRecDepth 20000 in
theorem gX3_row_X3_isSlot : GoodIn wsX3_row (va_wsS RX3 84 yX3_isSlot wsX3_isSlot) := goodIn_app (goodIn_r _ [4, 5, 6] rfl (by decide +kernel)) ggX3_row_X3_isSlot
set_option maxRecDepth 20000 in
theorem ggX3_row_X3_isOther : GoodIn wsX3_row wsX3_isOther := goodIn_r _ [15, 1, 16, 17, 18, 6, 19, 20, 21, 22, 23, 24, 25, 26, 27, 28, 29, 30, 31, 32, 33, 34, 35, 36, 37, 38, 39, 40, 41, 42] rfl (by decide +kernel)
set_option maxRecDepth 20000 in
theorem gX3_row_X3_isOther : GoodIn wsX3_row (wsV RX3 126 RX3 yX3_isOther wsX3_isOther) := goodIn_app (goodIn_r _ [12, 13, 14, 6] rfl (by decide +kernel)) ggX3_row_X3_isOther
theorem bnd_x31_5 : decs cX3_row [(0, .iload_n 1, 1), (1, .invokestatic 84, 3), (4, .ifCond .eq 9, 3), (7, .iload_n 2, 1), (8, .bipush 20, 2), (10, .if_icmp .le 5, 3), (13, .iconst (-1), 1), (14, .ireturn, 1), (15, .aload_n 0, 1), (16, .iload_n 1, 1), (17, .bipush 9, 2), (19, .invokevirtual 126, 3), (22, .ifCond .eq 6, 3), (25, .bipush (-14), 2), (27, .ireturn, 1), (28, .iload_n 2, 1), (29, .ifCond .ge 12, 3), (32, .iload_n 2, 1), (33, .bipush (-4), 2), (35, .if_icmp .eq 6, 3), (38, .bipush (-13), 2), (40, .ireturn, 1), (41, .aload_n 0, 1), (42, .getfield 7, 3)] = true := by decide +kernel
theorem dX3_row_0 : decode cX3_row 0 = .ok (.iload_n 1, 1) := decs_at bnd_x31_5 0 (x := (0, .iload_n 1, 1)) rfl
theorem dX3_row_1 : decode cX3_row 1 = .ok (.invokestatic 84, 3) := decs_at bnd_x31_5 1 (x := (1, .invokestatic 84, 3)) rfl
theorem dX3_row_4 : decode cX3_row 4 = .ok (.ifCond .eq 9, 3) := decs_at bnd_x31_5 2 (x := (4, .ifCond .eq 9, 3)) rfl
theorem dX3_row_7 : decode cX3_row 7 = .ok (.iload_n 2, 1) := decs_at bnd_x31_5 3 (x := (7, .iload_n 2, 1)) rfl
theorem dX3_row_8 : decode cX3_row 8 = .ok (.bipush 20, 2) := decs_at bnd_x31_5 4 (x := (8, .bipush 20, 2)) rfl
theorem dX3_row_10 : decode cX3_row 10 = .ok (.if_icmp .le 5, 3) := decs_at bnd_x31_5 5 (x := (10, .if_icmp .le 5, 3)) rfl
theorem dX3_row_13 : decode cX3_row 13 = .ok (.iconst (-1), 1) := decs_at bnd_x31_5 6 (x := (13, .iconst (-1), 1)) rfl
theorem dX3_row_14 : decode cX3_row 14 = .ok (.ireturn, 1) := decs_at bnd_x31_5 7 (x := (14, .ireturn, 1)) rfl
theorem dX3_row_15 : decode cX3_row 15 = .ok (.aload_n 0, 1) := decs_at bnd_x31_5 8 (x := (15, .aload_n 0, 1)) rfl
theorem dX3_row_16 : decode cX3_row 16 = .ok (.iload_n 1, 1) := decs_at bnd_x31_5 9 (x := (16, .iload_n 1, 1)) rfl
theorem dX3_row_17 : decode cX3_row 17 = .ok (.bipush 9, 2) := decs_at bnd_x31_5 10 (x := (17, .bipush 9, 2)) rfl
theorem dX3_row_19 : decode cX3_row 19 = .ok (.invokevirtual 126, 3) := decs_at bnd_x31_5 11 (x := (19, .invokevirtual 126, 3)) rfl
theorem dX3_row_22 : decode cX3_row 22 = .ok (.ifCond .eq 6, 3) := decs_at bnd_x31_5 12 (x := (22, .ifCond .eq 6, 3)) rfl
theorem dX3_row_25 : decode cX3_row 25 = .ok (.bipush (-14), 2) := decs_at bnd_x31_5 13 (x := (25, .bipush (-14), 2)) rfl
theorem dX3_row_27 : decode cX3_row 27 = .ok (.ireturn, 1) := decs_at bnd_x31_5 14 (x := (27, .ireturn, 1)) rfl
theorem dX3_row_28 : decode cX3_row 28 = .ok (.iload_n 2, 1) := decs_at bnd_x31_5 15 (x := (28, .iload_n 2, 1)) rfl
theorem dX3_row_29 : decode cX3_row 29 = .ok (.ifCond .ge 12, 3) := decs_at bnd_x31_5 16 (x := (29, .ifCond .ge 12, 3)) rfl
theorem dX3_row_32 : decode cX3_row 32 = .ok (.iload_n 2, 1) := decs_at bnd_x31_5 17 (x := (32, .iload_n 2, 1)) rfl
theorem dX3_row_33 : decode cX3_row 33 = .ok (.bipush (-4), 2) := decs_at bnd_x31_5 18 (x := (33, .bipush (-4), 2)) rfl
theorem dX3_row_35 : decode cX3_row 35 = .ok (.if_icmp .eq 6, 3) := decs_at bnd_x31_5 19 (x := (35, .if_icmp .eq 6, 3)) rfl
theorem dX3_row_38 : decode cX3_row 38 = .ok (.bipush (-13), 2) := decs_at bnd_x31_5 20 (x := (38, .bipush (-13), 2)) rfl
theorem dX3_row_40 : decode cX3_row 40 = .ok (.ireturn, 1) := decs_at bnd_x31_5 21 (x := (40, .ireturn, 1)) rfl
theorem dX3_row_41 : decode cX3_row 41 = .ok (.aload_n 0, 1) := decs_at bnd_x31_5 22 (x := (41, .aload_n 0, 1)) rfl
theorem dX3_row_42 : decode cX3_row 42 = .ok (.getfield 7, 3) := decs_at bnd_x31_5 23 (x := (42, .getfield 7, 3)) rfl
theorem bnd_x31_6 : decs cX3_row [(45, .iload_n 1, 1), (46, .iaload, 1), (47, .iconst (-1), 1), (48, .if_icmp .ne 6, 3), (51, .bipush (-11), 2), (53, .ireturn, 1), (54, .aload_n 0, 1), (55, .getfield 21, 3), (58, .aload_n 0, 1), (59, .getfield 7, 3), (62, .iload_n 1, 1), (63, .iaload, 1), (64, .iload_n 2, 1), (65, .bipush (-4), 2), (67, .if_icmp .ne 7, 3), (70, .iconst (-1), 1), (71, .goto 4, 3), (74, .iload_n 2, 1), (75, .iastore, 1), (76, .iconst 0, 1), (77, .istore_n 3, 1), (78, .iload_n 3, 1), (79, .iload_n 2, 1), (80, .if_icmp .ge 26, 3)] = true := by decide +kernel
theorem dX3_row_45 : decode cX3_row 45 = .ok (.iload_n 1, 1) := decs_at bnd_x31_6 0 (x := (45, .iload_n 1, 1)) rfl
theorem dX3_row_46 : decode cX3_row 46 = .ok (.iaload, 1) := decs_at bnd_x31_6 1 (x := (46, .iaload, 1)) rfl
theorem dX3_row_47 : decode cX3_row 47 = .ok (.iconst (-1), 1) := decs_at bnd_x31_6 2 (x := (47, .iconst (-1), 1)) rfl
theorem dX3_row_48 : decode cX3_row 48 = .ok (.if_icmp .ne 6, 3) := decs_at bnd_x31_6 3 (x := (48, .if_icmp .ne 6, 3)) rfl
theorem dX3_row_51 : decode cX3_row 51 = .ok (.bipush (-11), 2) := decs_at bnd_x31_6 4 (x := (51, .bipush (-11), 2)) rfl
theorem dX3_row_53 : decode cX3_row 53 = .ok (.ireturn, 1) := decs_at bnd_x31_6 5 (x := (53, .ireturn, 1)) rfl
theorem dX3_row_54 : decode cX3_row 54 = .ok (.aload_n 0, 1) := decs_at bnd_x31_6 6 (x := (54, .aload_n 0, 1)) rfl
theorem dX3_row_55 : decode cX3_row 55 = .ok (.getfield 21, 3) := decs_at bnd_x31_6 7 (x := (55, .getfield 21, 3)) rfl
theorem dX3_row_58 : decode cX3_row 58 = .ok (.aload_n 0, 1) := decs_at bnd_x31_6 8 (x := (58, .aload_n 0, 1)) rfl
theorem dX3_row_59 : decode cX3_row 59 = .ok (.getfield 7, 3) := decs_at bnd_x31_6 9 (x := (59, .getfield 7, 3)) rfl
theorem dX3_row_62 : decode cX3_row 62 = .ok (.iload_n 1, 1) := decs_at bnd_x31_6 10 (x := (62, .iload_n 1, 1)) rfl
theorem dX3_row_63 : decode cX3_row 63 = .ok (.iaload, 1) := decs_at bnd_x31_6 11 (x := (63, .iaload, 1)) rfl
theorem dX3_row_64 : decode cX3_row 64 = .ok (.iload_n 2, 1) := decs_at bnd_x31_6 12 (x := (64, .iload_n 2, 1)) rfl
theorem dX3_row_65 : decode cX3_row 65 = .ok (.bipush (-4), 2) := decs_at bnd_x31_6 13 (x := (65, .bipush (-4), 2)) rfl
theorem dX3_row_67 : decode cX3_row 67 = .ok (.if_icmp .ne 7, 3) := decs_at bnd_x31_6 14 (x := (67, .if_icmp .ne 7, 3)) rfl
theorem dX3_row_70 : decode cX3_row 70 = .ok (.iconst (-1), 1) := decs_at bnd_x31_6 15 (x := (70, .iconst (-1), 1)) rfl
theorem dX3_row_71 : decode cX3_row 71 = .ok (.goto 4, 3) := decs_at bnd_x31_6 16 (x := (71, .goto 4, 3)) rfl
theorem dX3_row_74 : decode cX3_row 74 = .ok (.iload_n 2, 1) := decs_at bnd_x31_6 17 (x := (74, .iload_n 2, 1)) rfl
theorem dX3_row_75 : decode cX3_row 75 = .ok (.iastore, 1) := decs_at bnd_x31_6 18 (x := (75, .iastore, 1)) rfl
theorem dX3_row_76 : decode cX3_row 76 = .ok (.iconst 0, 1) := decs_at bnd_x31_6 19 (x := (76, .iconst 0, 1)) rfl
theorem dX3_row_77 : decode cX3_row 77 = .ok (.istore_n 3, 1) := decs_at bnd_x31_6 20 (x := (77, .istore_n 3, 1)) rfl
theorem dX3_row_78 : decode cX3_row 78 = .ok (.iload_n 3, 1) := decs_at bnd_x31_6 21 (x := (78, .iload_n 3, 1)) rfl
theorem dX3_row_79 : decode cX3_row 79 = .ok (.iload_n 2, 1) := decs_at bnd_x31_6 22 (x := (79, .iload_n 2, 1)) rfl
theorem dX3_row_80 : decode cX3_row 80 = .ok (.if_icmp .ge 26, 3) := decs_at bnd_x31_6 23 (x := (80, .if_icmp .ge 26, 3)) rfl
theorem bnd_x31_7 : decs cX3_row [(83, .aload_n 0, 1), (84, .getfield 25, 3), (87, .bipush 20, 2), (89, .aload_n 0, 1), (90, .getfield 7, 3), (93, .iload_n 1, 1), (94, .iaload, 1), (95, .imul, 1), (96, .iload_n 3, 1), (97, .iadd, 1), (98, .iconst 0, 1), (99, .iastore, 1), (100, .iinc 3 1, 3), (103, .goto (-25), 3), (106, .iload_n 2, 1), (107, .ireturn, 1)] = true := by decide +kernel
theorem dX3_row_83 : decode cX3_row 83 = .ok (.aload_n 0, 1) := decs_at bnd_x31_7 0 (x := (83, .aload_n 0, 1)) rfl
theorem dX3_row_84 : decode cX3_row 84 = .ok (.getfield 25, 3) := decs_at bnd_x31_7 1 (x := (84, .getfield 25, 3)) rfl
theorem dX3_row_87 : decode cX3_row 87 = .ok (.bipush 20, 2) := decs_at bnd_x31_7 2 (x := (87, .bipush 20, 2)) rfl
theorem dX3_row_89 : decode cX3_row 89 = .ok (.aload_n 0, 1) := decs_at bnd_x31_7 3 (x := (89, .aload_n 0, 1)) rfl
theorem dX3_row_90 : decode cX3_row 90 = .ok (.getfield 7, 3) := decs_at bnd_x31_7 4 (x := (90, .getfield 7, 3)) rfl
theorem dX3_row_93 : decode cX3_row 93 = .ok (.iload_n 1, 1) := decs_at bnd_x31_7 5 (x := (93, .iload_n 1, 1)) rfl
theorem dX3_row_94 : decode cX3_row 94 = .ok (.iaload, 1) := decs_at bnd_x31_7 6 (x := (94, .iaload, 1)) rfl
theorem dX3_row_95 : decode cX3_row 95 = .ok (.imul, 1) := decs_at bnd_x31_7 7 (x := (95, .imul, 1)) rfl
theorem dX3_row_96 : decode cX3_row 96 = .ok (.iload_n 3, 1) := decs_at bnd_x31_7 8 (x := (96, .iload_n 3, 1)) rfl
theorem dX3_row_97 : decode cX3_row 97 = .ok (.iadd, 1) := decs_at bnd_x31_7 9 (x := (97, .iadd, 1)) rfl
theorem dX3_row_98 : decode cX3_row 98 = .ok (.iconst 0, 1) := decs_at bnd_x31_7 10 (x := (98, .iconst 0, 1)) rfl
theorem dX3_row_99 : decode cX3_row 99 = .ok (.iastore, 1) := decs_at bnd_x31_7 11 (x := (99, .iastore, 1)) rfl
theorem dX3_row_100 : decode cX3_row 100 = .ok (.iinc 3 1, 3) := decs_at bnd_x31_7 12 (x := (100, .iinc 3 1, 3)) rfl
theorem dX3_row_103 : decode cX3_row 103 = .ok (.goto (-25), 3) := decs_at bnd_x31_7 13 (x := (103, .goto (-25), 3)) rfl
theorem dX3_row_106 : decode cX3_row 106 = .ok (.iload_n 2, 1) := decs_at bnd_x31_7 14 (x := (106, .iload_n 2, 1)) rfl
theorem dX3_row_107 : decode cX3_row 107 = .ok (.ireturn, 1) := decs_at bnd_x31_7 15 (x := (107, .ireturn, 1)) rfl
set_option maxRecDepth 20000 in
theorem ggX3_rowless_X3_isOther : GoodIn wsX3_rowless wsX3_isOther := goodIn_r _ [7, 1, 8, 9, 10, 6, 11, 12, 13, 14, 15, 16, 17, 18, 19, 20, 21, 22, 23, 24, 25, 26, 27, 28, 29, 30, 31, 32, 33, 34] rfl (by decide +kernel)
set_option maxRecDepth 20000 in
theorem gX3_rowless_X3_isOther : GoodIn wsX3_rowless (wsV RX3 126 RX3 yX3_isOther wsX3_isOther) := goodIn_app (goodIn_r _ [3, 4, 5, 6] rfl (by decide +kernel)) ggX3_rowless_X3_isOther
theorem bnd_x31_8 : decs cX3_rowless [(0, .aload_n 0, 1), (1, .iload_n 1, 1), (2, .bipush 9, 2), (4, .invokevirtual 126, 3), (7, .ifCond .eq 8, 3), (10, .bipush (-14), 2), (12, .goto 34, 3), (15, .aload_n 0, 1), (16, .getfield 7, 3), (19, .iload_n 1, 1), (20, .iaload, 1), (21, .iconst (-1), 1), (22, .if_icmp .eq 18, 3), (25, .aload_n 0, 1), (26, .getfield 21, 3), (29, .aload_n 0, 1), (30, .getfield 7, 3), (33, .iload_n 1, 1), (34, .iaload, 1), (35, .iaload, 1), (36, .iconst (-1), 1), (37, .if_icmp .ne 8, 3), (40, .bipush (-11), 2), (42, .goto 4, 3)] = true := by decide +kernel
theorem dX3_rowless_0 : decode cX3_rowless 0 = .ok (.aload_n 0, 1) := decs_at bnd_x31_8 0 (x := (0, .aload_n 0, 1)) rfl
theorem dX3_rowless_1 : decode cX3_rowless 1 = .ok (.iload_n 1, 1) := decs_at bnd_x31_8 1 (x := (1, .iload_n 1, 1)) rfl
theorem dX3_rowless_2 : decode cX3_rowless 2 = .ok (.bipush 9, 2) := decs_at bnd_x31_8 2 (x := (2, .bipush 9, 2)) rfl
theorem dX3_rowless_4 : decode cX3_rowless 4 = .ok (.invokevirtual 126, 3) := decs_at bnd_x31_8 3 (x := (4, .invokevirtual 126, 3)) rfl
theorem dX3_rowless_7 : decode cX3_rowless 7 = .ok (.ifCond .eq 8, 3) := decs_at bnd_x31_8 4 (x := (7, .ifCond .eq 8, 3)) rfl
theorem dX3_rowless_10 : decode cX3_rowless 10 = .ok (.bipush (-14), 2) := decs_at bnd_x31_8 5 (x := (10, .bipush (-14), 2)) rfl
theorem dX3_rowless_12 : decode cX3_rowless 12 = .ok (.goto 34, 3) := decs_at bnd_x31_8 6 (x := (12, .goto 34, 3)) rfl
theorem dX3_rowless_15 : decode cX3_rowless 15 = .ok (.aload_n 0, 1) := decs_at bnd_x31_8 7 (x := (15, .aload_n 0, 1)) rfl
theorem dX3_rowless_16 : decode cX3_rowless 16 = .ok (.getfield 7, 3) := decs_at bnd_x31_8 8 (x := (16, .getfield 7, 3)) rfl
theorem dX3_rowless_19 : decode cX3_rowless 19 = .ok (.iload_n 1, 1) := decs_at bnd_x31_8 9 (x := (19, .iload_n 1, 1)) rfl
theorem dX3_rowless_20 : decode cX3_rowless 20 = .ok (.iaload, 1) := decs_at bnd_x31_8 10 (x := (20, .iaload, 1)) rfl
theorem dX3_rowless_21 : decode cX3_rowless 21 = .ok (.iconst (-1), 1) := decs_at bnd_x31_8 11 (x := (21, .iconst (-1), 1)) rfl
theorem dX3_rowless_22 : decode cX3_rowless 22 = .ok (.if_icmp .eq 18, 3) := decs_at bnd_x31_8 12 (x := (22, .if_icmp .eq 18, 3)) rfl
theorem dX3_rowless_25 : decode cX3_rowless 25 = .ok (.aload_n 0, 1) := decs_at bnd_x31_8 13 (x := (25, .aload_n 0, 1)) rfl
theorem dX3_rowless_26 : decode cX3_rowless 26 = .ok (.getfield 21, 3) := decs_at bnd_x31_8 14 (x := (26, .getfield 21, 3)) rfl
theorem dX3_rowless_29 : decode cX3_rowless 29 = .ok (.aload_n 0, 1) := decs_at bnd_x31_8 15 (x := (29, .aload_n 0, 1)) rfl
theorem dX3_rowless_30 : decode cX3_rowless 30 = .ok (.getfield 7, 3) := decs_at bnd_x31_8 16 (x := (30, .getfield 7, 3)) rfl
theorem dX3_rowless_33 : decode cX3_rowless 33 = .ok (.iload_n 1, 1) := decs_at bnd_x31_8 17 (x := (33, .iload_n 1, 1)) rfl
theorem dX3_rowless_34 : decode cX3_rowless 34 = .ok (.iaload, 1) := decs_at bnd_x31_8 18 (x := (34, .iaload, 1)) rfl
theorem dX3_rowless_35 : decode cX3_rowless 35 = .ok (.iaload, 1) := decs_at bnd_x31_8 19 (x := (35, .iaload, 1)) rfl
theorem dX3_rowless_36 : decode cX3_rowless 36 = .ok (.iconst (-1), 1) := decs_at bnd_x31_8 20 (x := (36, .iconst (-1), 1)) rfl
theorem dX3_rowless_37 : decode cX3_rowless 37 = .ok (.if_icmp .ne 8, 3) := decs_at bnd_x31_8 21 (x := (37, .if_icmp .ne 8, 3)) rfl
theorem dX3_rowless_40 : decode cX3_rowless 40 = .ok (.bipush (-11), 2) := decs_at bnd_x31_8 22 (x := (40, .bipush (-11), 2)) rfl
theorem dX3_rowless_42 : decode cX3_rowless 42 = .ok (.goto 4, 3) := decs_at bnd_x31_8 23 (x := (42, .goto 4, 3)) rfl
theorem dX3_rowless_45 : decode cX3_rowless 45 = .ok (.iconst 0, 1) := by decide +kernel
theorem dX3_rowless_46 : decode cX3_rowless 46 = .ok (.ireturn, 1) := by decide +kernel
set_option maxRecDepth 20000 in
theorem ggX3_put_X3_isSlot : GoodIn wsX3_put wsX3_isSlot := goodIn_r _ [7, 8, 9, 10, 6, 11] rfl (by decide +kernel)
set_option maxRecDepth 20000 in
theorem gX3_put_X3_isSlot : GoodIn wsX3_put (va_wsS RX3 84 yX3_isSlot wsX3_isSlot) := goodIn_app (goodIn_r _ [4, 5, 6] rfl (by decide +kernel)) ggX3_put_X3_isSlot
set_option maxRecDepth 20000 in
theorem ggX3_put_X3_rowless : GoodIn wsX3_put wsX3_rowless := goodIn_r _ [15, 2, 1, 16, 17, 18, 6, 19, 20, 21, 22, 23, 24, 25, 26, 27, 28, 29, 30, 31, 32, 33, 34, 35, 36, 37, 38, 39, 40, 41, 42, 43, 44, 45, 46] rfl (by decide +kernel)
set_option maxRecDepth 20000 in
theorem gX3_put_X3_rowless : GoodIn wsX3_put (wsV RX3 138 RX3 yX3_rowless wsX3_rowless) := goodIn_app (goodIn_r _ [12, 13, 14, 6] rfl (by decide +kernel)) ggX3_put_X3_rowless
set_option maxRecDepth 20000 in
theorem ggX3_put_X3_in : GoodIn wsX3_put wsX3_in := goodIn_r _ [11] rfl (by decide +kernel)
set_option maxRecDepth 20000 in
theorem gX3_put_X3_in : GoodIn wsX3_put (va_wsS RX3 70 yX3_in wsX3_in) := goodIn_app (goodIn_r _ [9, 10, 6] rfl (by decide +kernel)) ggX3_put_X3_in
theorem bnd_x31_9 : decs cX3_put [(0, .iload_n 1, 1), (1, .invokestatic 84, 3), (4, .ifCond .ne 5, 3), (7, .iconst (-1), 1), (8, .ireturn, 1), (9, .aload_n 0, 1), (10, .iload_n 1, 1), (11, .invokevirtual 138, 3), (14, .istore 4, 2), (16, .iload 4, 2), (18, .ifCond .eq 6, 3), (21, .iload 4, 2), (23, .ireturn, 1), (24, .iload_n 2, 1), (25, .i2l, 1), (26, .lconst 0, 1), (27, .aload_n 0, 1), (28, .getfield 21, 3), (31, .aload_n 0, 1), (32, .getfield 7, 3), (35, .iload_n 1, 1), (36, .iaload, 1), (37, .iaload, 1), (38, .iconst 1, 1)] = true := by decide +kernel
theorem dX3_put_0 : decode cX3_put 0 = .ok (.iload_n 1, 1) := decs_at bnd_x31_9 0 (x := (0, .iload_n 1, 1)) rfl
theorem dX3_put_1 : decode cX3_put 1 = .ok (.invokestatic 84, 3) := decs_at bnd_x31_9 1 (x := (1, .invokestatic 84, 3)) rfl
theorem dX3_put_4 : decode cX3_put 4 = .ok (.ifCond .ne 5, 3) := decs_at bnd_x31_9 2 (x := (4, .ifCond .ne 5, 3)) rfl
theorem dX3_put_7 : decode cX3_put 7 = .ok (.iconst (-1), 1) := decs_at bnd_x31_9 3 (x := (7, .iconst (-1), 1)) rfl
theorem dX3_put_8 : decode cX3_put 8 = .ok (.ireturn, 1) := decs_at bnd_x31_9 4 (x := (8, .ireturn, 1)) rfl
theorem dX3_put_9 : decode cX3_put 9 = .ok (.aload_n 0, 1) := decs_at bnd_x31_9 5 (x := (9, .aload_n 0, 1)) rfl
theorem dX3_put_10 : decode cX3_put 10 = .ok (.iload_n 1, 1) := decs_at bnd_x31_9 6 (x := (10, .iload_n 1, 1)) rfl
theorem dX3_put_11 : decode cX3_put 11 = .ok (.invokevirtual 138, 3) := decs_at bnd_x31_9 7 (x := (11, .invokevirtual 138, 3)) rfl
theorem dX3_put_14 : decode cX3_put 14 = .ok (.istore 4, 2) := decs_at bnd_x31_9 8 (x := (14, .istore 4, 2)) rfl
theorem dX3_put_16 : decode cX3_put 16 = .ok (.iload 4, 2) := decs_at bnd_x31_9 9 (x := (16, .iload 4, 2)) rfl
theorem dX3_put_18 : decode cX3_put 18 = .ok (.ifCond .eq 6, 3) := decs_at bnd_x31_9 10 (x := (18, .ifCond .eq 6, 3)) rfl
theorem dX3_put_21 : decode cX3_put 21 = .ok (.iload 4, 2) := decs_at bnd_x31_9 11 (x := (21, .iload 4, 2)) rfl
theorem dX3_put_23 : decode cX3_put 23 = .ok (.ireturn, 1) := decs_at bnd_x31_9 12 (x := (23, .ireturn, 1)) rfl
theorem dX3_put_24 : decode cX3_put 24 = .ok (.iload_n 2, 1) := decs_at bnd_x31_9 13 (x := (24, .iload_n 2, 1)) rfl
theorem dX3_put_25 : decode cX3_put 25 = .ok (.i2l, 1) := decs_at bnd_x31_9 14 (x := (25, .i2l, 1)) rfl
theorem dX3_put_26 : decode cX3_put 26 = .ok (.lconst 0, 1) := decs_at bnd_x31_9 15 (x := (26, .lconst 0, 1)) rfl
theorem dX3_put_27 : decode cX3_put 27 = .ok (.aload_n 0, 1) := decs_at bnd_x31_9 16 (x := (27, .aload_n 0, 1)) rfl
theorem dX3_put_28 : decode cX3_put 28 = .ok (.getfield 21, 3) := decs_at bnd_x31_9 17 (x := (28, .getfield 21, 3)) rfl
theorem dX3_put_31 : decode cX3_put 31 = .ok (.aload_n 0, 1) := decs_at bnd_x31_9 18 (x := (31, .aload_n 0, 1)) rfl
theorem dX3_put_32 : decode cX3_put 32 = .ok (.getfield 7, 3) := decs_at bnd_x31_9 19 (x := (32, .getfield 7, 3)) rfl
theorem dX3_put_35 : decode cX3_put 35 = .ok (.iload_n 1, 1) := decs_at bnd_x31_9 20 (x := (35, .iload_n 1, 1)) rfl
theorem dX3_put_36 : decode cX3_put 36 = .ok (.iaload, 1) := decs_at bnd_x31_9 21 (x := (36, .iaload, 1)) rfl
theorem dX3_put_37 : decode cX3_put 37 = .ok (.iaload, 1) := decs_at bnd_x31_9 22 (x := (37, .iaload, 1)) rfl
theorem dX3_put_38 : decode cX3_put 38 = .ok (.iconst 1, 1) := decs_at bnd_x31_9 23 (x := (38, .iconst 1, 1)) rfl
theorem bnd_x31_10 : decs cX3_put [(39, .isub, 1), (40, .i2l, 1), (41, .invokestatic 70, 3), (44, .ifCond .ne 6, 3), (47, .bipush (-12), 2), (49, .ireturn, 1), (50, .aload_n 0, 1), (51, .getfield 25, 3), (54, .bipush 20, 2), (56, .aload_n 0, 1), (57, .getfield 7, 3), (60, .iload_n 1, 1), (61, .iaload, 1), (62, .imul, 1), (63, .iload_n 2, 1), (64, .iadd, 1), (65, .iaload, 1), (66, .istore 5, 2), (68, .aload_n 0, 1), (69, .getfield 25, 3), (72, .bipush 20, 2), (74, .aload_n 0, 1), (75, .getfield 7, 3), (78, .iload_n 1, 1)] = true := by decide +kernel
theorem dX3_put_39 : decode cX3_put 39 = .ok (.isub, 1) := decs_at bnd_x31_10 0 (x := (39, .isub, 1)) rfl
theorem dX3_put_40 : decode cX3_put 40 = .ok (.i2l, 1) := decs_at bnd_x31_10 1 (x := (40, .i2l, 1)) rfl
theorem dX3_put_41 : decode cX3_put 41 = .ok (.invokestatic 70, 3) := decs_at bnd_x31_10 2 (x := (41, .invokestatic 70, 3)) rfl
theorem dX3_put_44 : decode cX3_put 44 = .ok (.ifCond .ne 6, 3) := decs_at bnd_x31_10 3 (x := (44, .ifCond .ne 6, 3)) rfl
theorem dX3_put_47 : decode cX3_put 47 = .ok (.bipush (-12), 2) := decs_at bnd_x31_10 4 (x := (47, .bipush (-12), 2)) rfl
theorem dX3_put_49 : decode cX3_put 49 = .ok (.ireturn, 1) := decs_at bnd_x31_10 5 (x := (49, .ireturn, 1)) rfl
theorem dX3_put_50 : decode cX3_put 50 = .ok (.aload_n 0, 1) := decs_at bnd_x31_10 6 (x := (50, .aload_n 0, 1)) rfl
theorem dX3_put_51 : decode cX3_put 51 = .ok (.getfield 25, 3) := decs_at bnd_x31_10 7 (x := (51, .getfield 25, 3)) rfl
theorem dX3_put_54 : decode cX3_put 54 = .ok (.bipush 20, 2) := decs_at bnd_x31_10 8 (x := (54, .bipush 20, 2)) rfl
theorem dX3_put_56 : decode cX3_put 56 = .ok (.aload_n 0, 1) := decs_at bnd_x31_10 9 (x := (56, .aload_n 0, 1)) rfl
theorem dX3_put_57 : decode cX3_put 57 = .ok (.getfield 7, 3) := decs_at bnd_x31_10 10 (x := (57, .getfield 7, 3)) rfl
theorem dX3_put_60 : decode cX3_put 60 = .ok (.iload_n 1, 1) := decs_at bnd_x31_10 11 (x := (60, .iload_n 1, 1)) rfl
theorem dX3_put_61 : decode cX3_put 61 = .ok (.iaload, 1) := decs_at bnd_x31_10 12 (x := (61, .iaload, 1)) rfl
theorem dX3_put_62 : decode cX3_put 62 = .ok (.imul, 1) := decs_at bnd_x31_10 13 (x := (62, .imul, 1)) rfl
theorem dX3_put_63 : decode cX3_put 63 = .ok (.iload_n 2, 1) := decs_at bnd_x31_10 14 (x := (63, .iload_n 2, 1)) rfl
theorem dX3_put_64 : decode cX3_put 64 = .ok (.iadd, 1) := decs_at bnd_x31_10 15 (x := (64, .iadd, 1)) rfl
theorem dX3_put_65 : decode cX3_put 65 = .ok (.iaload, 1) := decs_at bnd_x31_10 16 (x := (65, .iaload, 1)) rfl
theorem dX3_put_66 : decode cX3_put 66 = .ok (.istore 5, 2) := decs_at bnd_x31_10 17 (x := (66, .istore 5, 2)) rfl
theorem dX3_put_68 : decode cX3_put 68 = .ok (.aload_n 0, 1) := decs_at bnd_x31_10 18 (x := (68, .aload_n 0, 1)) rfl
theorem dX3_put_69 : decode cX3_put 69 = .ok (.getfield 25, 3) := decs_at bnd_x31_10 19 (x := (69, .getfield 25, 3)) rfl
theorem dX3_put_72 : decode cX3_put 72 = .ok (.bipush 20, 2) := decs_at bnd_x31_10 20 (x := (72, .bipush 20, 2)) rfl
theorem dX3_put_74 : decode cX3_put 74 = .ok (.aload_n 0, 1) := decs_at bnd_x31_10 21 (x := (74, .aload_n 0, 1)) rfl
theorem dX3_put_75 : decode cX3_put 75 = .ok (.getfield 7, 3) := decs_at bnd_x31_10 22 (x := (75, .getfield 7, 3)) rfl
theorem dX3_put_78 : decode cX3_put 78 = .ok (.iload_n 1, 1) := decs_at bnd_x31_10 23 (x := (78, .iload_n 1, 1)) rfl
theorem bnd_x31_11 : decs cX3_put [(79, .iaload, 1), (80, .imul, 1), (81, .iload_n 2, 1), (82, .iadd, 1), (83, .iload_n 3, 1), (84, .iastore, 1), (85, .iload 5, 2), (87, .ireturn, 1)] = true := by decide +kernel
theorem dX3_put_79 : decode cX3_put 79 = .ok (.iaload, 1) := decs_at bnd_x31_11 0 (x := (79, .iaload, 1)) rfl
theorem dX3_put_80 : decode cX3_put 80 = .ok (.imul, 1) := decs_at bnd_x31_11 1 (x := (80, .imul, 1)) rfl
theorem dX3_put_81 : decode cX3_put 81 = .ok (.iload_n 2, 1) := decs_at bnd_x31_11 2 (x := (81, .iload_n 2, 1)) rfl
theorem dX3_put_82 : decode cX3_put 82 = .ok (.iadd, 1) := decs_at bnd_x31_11 3 (x := (82, .iadd, 1)) rfl
theorem dX3_put_83 : decode cX3_put 83 = .ok (.iload_n 3, 1) := decs_at bnd_x31_11 4 (x := (83, .iload_n 3, 1)) rfl
theorem dX3_put_84 : decode cX3_put 84 = .ok (.iastore, 1) := decs_at bnd_x31_11 5 (x := (84, .iastore, 1)) rfl
theorem dX3_put_85 : decode cX3_put 85 = .ok (.iload 5, 2) := decs_at bnd_x31_11 6 (x := (85, .iload 5, 2)) rfl
theorem dX3_put_87 : decode cX3_put 87 = .ok (.ireturn, 1) := decs_at bnd_x31_11 7 (x := (87, .ireturn, 1)) rfl
set_option maxRecDepth 20000 in
theorem ggX3_length_X3_isSlot : GoodIn wsX3_length wsX3_isSlot := goodIn_r _ [6, 7, 8, 9, 5, 10] rfl (by decide +kernel)
set_option maxRecDepth 20000 in
theorem gX3_length_X3_isSlot : GoodIn wsX3_length (va_wsS RX3 84 yX3_isSlot wsX3_isSlot) := goodIn_app (goodIn_r _ [3, 4, 5] rfl (by decide +kernel)) ggX3_length_X3_isSlot
set_option maxRecDepth 20000 in
theorem ggX3_length_X3_rowless : GoodIn wsX3_length wsX3_rowless := goodIn_r _ [14, 2, 1, 15, 16, 17, 5, 18, 19, 20, 21, 22, 23, 24, 25, 26, 27, 28, 29, 30, 31, 32, 33, 34, 35, 36, 37, 38, 39, 40, 41, 42, 43, 44, 45] rfl (by decide +kernel)
set_option maxRecDepth 20000 in
theorem gX3_length_X3_rowless : GoodIn wsX3_length (wsV RX3 138 RX3 yX3_rowless wsX3_rowless) := goodIn_app (goodIn_r _ [11, 12, 13, 5] rfl (by decide +kernel)) ggX3_length_X3_rowless
theorem bnd_x31_12 : decs cX3_length [(0, .iload_n 1, 1), (1, .invokestatic 84, 3), (4, .ifCond .ne 5, 3), (7, .iconst (-1), 1), (8, .ireturn, 1), (9, .aload_n 0, 1), (10, .iload_n 1, 1), (11, .invokevirtual 138, 3), (14, .istore_n 2, 1), (15, .iload_n 2, 1), (16, .ifCond .eq 7, 3), (19, .iload_n 2, 1), (20, .goto 14, 3), (23, .aload_n 0, 1), (24, .getfield 21, 3), (27, .aload_n 0, 1), (28, .getfield 7, 3), (31, .iload_n 1, 1), (32, .iaload, 1), (33, .iaload, 1), (34, .ireturn, 1)] = true := by decide +kernel
theorem dX3_length_0 : decode cX3_length 0 = .ok (.iload_n 1, 1) := decs_at bnd_x31_12 0 (x := (0, .iload_n 1, 1)) rfl
theorem dX3_length_1 : decode cX3_length 1 = .ok (.invokestatic 84, 3) := decs_at bnd_x31_12 1 (x := (1, .invokestatic 84, 3)) rfl
theorem dX3_length_4 : decode cX3_length 4 = .ok (.ifCond .ne 5, 3) := decs_at bnd_x31_12 2 (x := (4, .ifCond .ne 5, 3)) rfl
theorem dX3_length_7 : decode cX3_length 7 = .ok (.iconst (-1), 1) := decs_at bnd_x31_12 3 (x := (7, .iconst (-1), 1)) rfl
theorem dX3_length_8 : decode cX3_length 8 = .ok (.ireturn, 1) := decs_at bnd_x31_12 4 (x := (8, .ireturn, 1)) rfl
theorem dX3_length_9 : decode cX3_length 9 = .ok (.aload_n 0, 1) := decs_at bnd_x31_12 5 (x := (9, .aload_n 0, 1)) rfl
theorem dX3_length_10 : decode cX3_length 10 = .ok (.iload_n 1, 1) := decs_at bnd_x31_12 6 (x := (10, .iload_n 1, 1)) rfl
theorem dX3_length_11 : decode cX3_length 11 = .ok (.invokevirtual 138, 3) := decs_at bnd_x31_12 7 (x := (11, .invokevirtual 138, 3)) rfl
theorem dX3_length_14 : decode cX3_length 14 = .ok (.istore_n 2, 1) := decs_at bnd_x31_12 8 (x := (14, .istore_n 2, 1)) rfl
theorem dX3_length_15 : decode cX3_length 15 = .ok (.iload_n 2, 1) := decs_at bnd_x31_12 9 (x := (15, .iload_n 2, 1)) rfl
theorem dX3_length_16 : decode cX3_length 16 = .ok (.ifCond .eq 7, 3) := decs_at bnd_x31_12 10 (x := (16, .ifCond .eq 7, 3)) rfl
theorem dX3_length_19 : decode cX3_length 19 = .ok (.iload_n 2, 1) := decs_at bnd_x31_12 11 (x := (19, .iload_n 2, 1)) rfl
theorem dX3_length_20 : decode cX3_length 20 = .ok (.goto 14, 3) := decs_at bnd_x31_12 12 (x := (20, .goto 14, 3)) rfl
theorem dX3_length_23 : decode cX3_length 23 = .ok (.aload_n 0, 1) := decs_at bnd_x31_12 13 (x := (23, .aload_n 0, 1)) rfl
theorem dX3_length_24 : decode cX3_length 24 = .ok (.getfield 21, 3) := decs_at bnd_x31_12 14 (x := (24, .getfield 21, 3)) rfl
theorem dX3_length_27 : decode cX3_length 27 = .ok (.aload_n 0, 1) := decs_at bnd_x31_12 15 (x := (27, .aload_n 0, 1)) rfl
theorem dX3_length_28 : decode cX3_length 28 = .ok (.getfield 7, 3) := decs_at bnd_x31_12 16 (x := (28, .getfield 7, 3)) rfl
theorem dX3_length_31 : decode cX3_length 31 = .ok (.iload_n 1, 1) := decs_at bnd_x31_12 17 (x := (31, .iload_n 1, 1)) rfl
theorem dX3_length_32 : decode cX3_length 32 = .ok (.iaload, 1) := decs_at bnd_x31_12 18 (x := (32, .iaload, 1)) rfl
theorem dX3_length_33 : decode cX3_length 33 = .ok (.iaload, 1) := decs_at bnd_x31_12 19 (x := (33, .iaload, 1)) rfl
theorem dX3_length_34 : decode cX3_length 34 = .ok (.ireturn, 1) := decs_at bnd_x31_12 20 (x := (34, .ireturn, 1)) rfl
set_option maxRecDepth 20000 in
theorem ggX3_count_X3_isSlot : GoodIn wsX3_count wsX3_isSlot := goodIn_r _ [11, 12, 13, 14, 10, 15] rfl (by decide +kernel)
set_option maxRecDepth 20000 in
theorem gX3_count_X3_isSlot : GoodIn wsX3_count (va_wsS RX3 84 yX3_isSlot wsX3_isSlot) := goodIn_app (goodIn_r _ [8, 9, 10] rfl (by decide +kernel)) ggX3_count_X3_isSlot
set_option maxRecDepth 20000 in
theorem ggX3_count_X3_in : GoodIn wsX3_count wsX3_in := goodIn_r _ [15] rfl (by decide +kernel)
set_option maxRecDepth 20000 in
theorem gX3_count_X3_in : GoodIn wsX3_count (va_wsS RX3 70 yX3_in wsX3_in) := goodIn_app (goodIn_r _ [13, 14, 10] rfl (by decide +kernel)) ggX3_count_X3_in
set_option maxRecDepth 20000 in
theorem ggX3_count_X3_isBelow : GoodIn wsX3_count wsX3_isBelow := goodIn_r _ [18] rfl (by decide +kernel)
set_option maxRecDepth 20000 in
theorem gX3_count_X3_isBelow : GoodIn wsX3_count (va_wsS RX3 100 yX3_isBelow wsX3_isBelow) := goodIn_app (goodIn_r _ [16, 17, 10] rfl (by decide +kernel)) ggX3_count_X3_isBelow
theorem bnd_x31_13 : decs cX3_count [(0, .iload_n 1, 1), (1, .invokestatic 84, 3), (4, .ifCond .eq 15, 3), (7, .iload_n 2, 1), (8, .i2l, 1), (9, .lconst 0, 1), (10, .ldc2_w 142, 3), (13, .invokestatic 70, 3), (16, .ifCond .ne 7, 3), (19, .ldc2_w 82, 3), (22, .lreturn, 1), (23, .aload_n 0, 1), (24, .getfield 7, 3), (27, .iload_n 1, 1), (28, .iaload, 1), (29, .iconst (-1), 1), (30, .if_icmp .ne 7, 3), (33, .ldc2_w 124, 3), (36, .lreturn, 1), (37, .aload_n 0, 1), (38, .getfield 13, 3), (41, .aload_n 0, 1), (42, .getfield 7, 3), (45, .iload_n 1, 1)] = true := by decide +kernel
theorem dX3_count_0 : decode cX3_count 0 = .ok (.iload_n 1, 1) := decs_at bnd_x31_13 0 (x := (0, .iload_n 1, 1)) rfl
theorem dX3_count_1 : decode cX3_count 1 = .ok (.invokestatic 84, 3) := decs_at bnd_x31_13 1 (x := (1, .invokestatic 84, 3)) rfl
theorem dX3_count_4 : decode cX3_count 4 = .ok (.ifCond .eq 15, 3) := decs_at bnd_x31_13 2 (x := (4, .ifCond .eq 15, 3)) rfl
theorem dX3_count_7 : decode cX3_count 7 = .ok (.iload_n 2, 1) := decs_at bnd_x31_13 3 (x := (7, .iload_n 2, 1)) rfl
theorem dX3_count_8 : decode cX3_count 8 = .ok (.i2l, 1) := decs_at bnd_x31_13 4 (x := (8, .i2l, 1)) rfl
theorem dX3_count_9 : decode cX3_count 9 = .ok (.lconst 0, 1) := decs_at bnd_x31_13 5 (x := (9, .lconst 0, 1)) rfl
theorem dX3_count_10 : decode cX3_count 10 = .ok (.ldc2_w 142, 3) := decs_at bnd_x31_13 6 (x := (10, .ldc2_w 142, 3)) rfl
theorem dX3_count_13 : decode cX3_count 13 = .ok (.invokestatic 70, 3) := decs_at bnd_x31_13 7 (x := (13, .invokestatic 70, 3)) rfl
theorem dX3_count_16 : decode cX3_count 16 = .ok (.ifCond .ne 7, 3) := decs_at bnd_x31_13 8 (x := (16, .ifCond .ne 7, 3)) rfl
theorem dX3_count_19 : decode cX3_count 19 = .ok (.ldc2_w 82, 3) := decs_at bnd_x31_13 9 (x := (19, .ldc2_w 82, 3)) rfl
theorem dX3_count_22 : decode cX3_count 22 = .ok (.lreturn, 1) := decs_at bnd_x31_13 10 (x := (22, .lreturn, 1)) rfl
theorem dX3_count_23 : decode cX3_count 23 = .ok (.aload_n 0, 1) := decs_at bnd_x31_13 11 (x := (23, .aload_n 0, 1)) rfl
theorem dX3_count_24 : decode cX3_count 24 = .ok (.getfield 7, 3) := decs_at bnd_x31_13 12 (x := (24, .getfield 7, 3)) rfl
theorem dX3_count_27 : decode cX3_count 27 = .ok (.iload_n 1, 1) := decs_at bnd_x31_13 13 (x := (27, .iload_n 1, 1)) rfl
theorem dX3_count_28 : decode cX3_count 28 = .ok (.iaload, 1) := decs_at bnd_x31_13 14 (x := (28, .iaload, 1)) rfl
theorem dX3_count_29 : decode cX3_count 29 = .ok (.iconst (-1), 1) := decs_at bnd_x31_13 15 (x := (29, .iconst (-1), 1)) rfl
theorem dX3_count_30 : decode cX3_count 30 = .ok (.if_icmp .ne 7, 3) := decs_at bnd_x31_13 16 (x := (30, .if_icmp .ne 7, 3)) rfl
theorem dX3_count_33 : decode cX3_count 33 = .ok (.ldc2_w 124, 3) := decs_at bnd_x31_13 17 (x := (33, .ldc2_w 124, 3)) rfl
theorem dX3_count_36 : decode cX3_count 36 = .ok (.lreturn, 1) := decs_at bnd_x31_13 18 (x := (36, .lreturn, 1)) rfl
theorem dX3_count_37 : decode cX3_count 37 = .ok (.aload_n 0, 1) := decs_at bnd_x31_13 19 (x := (37, .aload_n 0, 1)) rfl
theorem dX3_count_38 : decode cX3_count 38 = .ok (.getfield 13, 3) := decs_at bnd_x31_13 20 (x := (38, .getfield 13, 3)) rfl
theorem dX3_count_41 : decode cX3_count 41 = .ok (.aload_n 0, 1) := decs_at bnd_x31_13 21 (x := (41, .aload_n 0, 1)) rfl
theorem dX3_count_42 : decode cX3_count 42 = .ok (.getfield 7, 3) := decs_at bnd_x31_13 22 (x := (42, .getfield 7, 3)) rfl
theorem dX3_count_45 : decode cX3_count 45 = .ok (.iload_n 1, 1) := decs_at bnd_x31_13 23 (x := (45, .iload_n 1, 1)) rfl
theorem bnd_x31_14 : decs cX3_count [(46, .iaload, 1), (47, .iaload, 1), (48, .iload_n 2, 1), (49, .invokestatic 100, 3), (52, .ifCond .eq 41, 3), (55, .aload_n 0, 1), (56, .getfield 17, 3), (59, .bipush 17, 2), (61, .aload_n 0, 1), (62, .getfield 7, 3), (65, .iload_n 1, 1), (66, .iaload, 1), (67, .imul, 1), (68, .iload_n 2, 1), (69, .ifCond .ne 7, 3), (72, .iconst 4, 1), (73, .goto 15, 3), (76, .iload_n 2, 1), (77, .iconst 1, 1), (78, .if_icmp .ne 8, 3), (81, .bipush 10, 2), (83, .goto 5, 3), (86, .bipush 12, 2), (88, .iadd, 1)] = true := by decide +kernel
theorem dX3_count_46 : decode cX3_count 46 = .ok (.iaload, 1) := decs_at bnd_x31_14 0 (x := (46, .iaload, 1)) rfl
theorem dX3_count_47 : decode cX3_count 47 = .ok (.iaload, 1) := decs_at bnd_x31_14 1 (x := (47, .iaload, 1)) rfl
theorem dX3_count_48 : decode cX3_count 48 = .ok (.iload_n 2, 1) := decs_at bnd_x31_14 2 (x := (48, .iload_n 2, 1)) rfl
theorem dX3_count_49 : decode cX3_count 49 = .ok (.invokestatic 100, 3) := decs_at bnd_x31_14 3 (x := (49, .invokestatic 100, 3)) rfl
theorem dX3_count_52 : decode cX3_count 52 = .ok (.ifCond .eq 41, 3) := decs_at bnd_x31_14 4 (x := (52, .ifCond .eq 41, 3)) rfl
theorem dX3_count_55 : decode cX3_count 55 = .ok (.aload_n 0, 1) := decs_at bnd_x31_14 5 (x := (55, .aload_n 0, 1)) rfl
theorem dX3_count_56 : decode cX3_count 56 = .ok (.getfield 17, 3) := decs_at bnd_x31_14 6 (x := (56, .getfield 17, 3)) rfl
theorem dX3_count_59 : decode cX3_count 59 = .ok (.bipush 17, 2) := decs_at bnd_x31_14 7 (x := (59, .bipush 17, 2)) rfl
theorem dX3_count_61 : decode cX3_count 61 = .ok (.aload_n 0, 1) := decs_at bnd_x31_14 8 (x := (61, .aload_n 0, 1)) rfl
theorem dX3_count_62 : decode cX3_count 62 = .ok (.getfield 7, 3) := decs_at bnd_x31_14 9 (x := (62, .getfield 7, 3)) rfl
theorem dX3_count_65 : decode cX3_count 65 = .ok (.iload_n 1, 1) := decs_at bnd_x31_14 10 (x := (65, .iload_n 1, 1)) rfl
theorem dX3_count_66 : decode cX3_count 66 = .ok (.iaload, 1) := decs_at bnd_x31_14 11 (x := (66, .iaload, 1)) rfl
theorem dX3_count_67 : decode cX3_count 67 = .ok (.imul, 1) := decs_at bnd_x31_14 12 (x := (67, .imul, 1)) rfl
theorem dX3_count_68 : decode cX3_count 68 = .ok (.iload_n 2, 1) := decs_at bnd_x31_14 13 (x := (68, .iload_n 2, 1)) rfl
theorem dX3_count_69 : decode cX3_count 69 = .ok (.ifCond .ne 7, 3) := decs_at bnd_x31_14 14 (x := (69, .ifCond .ne 7, 3)) rfl
theorem dX3_count_72 : decode cX3_count 72 = .ok (.iconst 4, 1) := decs_at bnd_x31_14 15 (x := (72, .iconst 4, 1)) rfl
theorem dX3_count_73 : decode cX3_count 73 = .ok (.goto 15, 3) := decs_at bnd_x31_14 16 (x := (73, .goto 15, 3)) rfl
theorem dX3_count_76 : decode cX3_count 76 = .ok (.iload_n 2, 1) := decs_at bnd_x31_14 17 (x := (76, .iload_n 2, 1)) rfl
theorem dX3_count_77 : decode cX3_count 77 = .ok (.iconst 1, 1) := decs_at bnd_x31_14 18 (x := (77, .iconst 1, 1)) rfl
theorem dX3_count_78 : decode cX3_count 78 = .ok (.if_icmp .ne 8, 3) := decs_at bnd_x31_14 19 (x := (78, .if_icmp .ne 8, 3)) rfl
theorem dX3_count_81 : decode cX3_count 81 = .ok (.bipush 10, 2) := decs_at bnd_x31_14 20 (x := (81, .bipush 10, 2)) rfl
theorem dX3_count_83 : decode cX3_count 83 = .ok (.goto 5, 3) := decs_at bnd_x31_14 21 (x := (83, .goto 5, 3)) rfl
theorem dX3_count_86 : decode cX3_count 86 = .ok (.bipush 12, 2) := decs_at bnd_x31_14 22 (x := (86, .bipush 12, 2)) rfl
theorem dX3_count_88 : decode cX3_count 88 = .ok (.iadd, 1) := decs_at bnd_x31_14 23 (x := (88, .iadd, 1)) rfl
theorem bnd_x31_15 : decs cX3_count [(89, .laload, 1), (90, .goto 6, 3), (93, .ldc2_w 129, 3), (96, .lreturn, 1)] = true := by decide +kernel
theorem dX3_count_89 : decode cX3_count 89 = .ok (.laload, 1) := decs_at bnd_x31_15 0 (x := (89, .laload, 1)) rfl
theorem dX3_count_90 : decode cX3_count 90 = .ok (.goto 6, 3) := decs_at bnd_x31_15 1 (x := (90, .goto 6, 3)) rfl
theorem dX3_count_93 : decode cX3_count 93 = .ok (.ldc2_w 129, 3) := decs_at bnd_x31_15 2 (x := (93, .ldc2_w 129, 3)) rfl
theorem dX3_count_96 : decode cX3_count 96 = .ok (.lreturn, 1) := decs_at bnd_x31_15 3 (x := (96, .lreturn, 1)) rfl
theorem bnd_x31_16 : decs cX3_nameOf [(0, .bipush 17, 2), (2, .iload_n 1, 1), (3, .imul, 1), (4, .istore_n 2, 1), (5, .iconst 1, 1), (6, .aload_n 0, 1), (7, .getfield 17, 3), (10, .iload_n 2, 1), (11, .iconst 4, 1), (12, .iadd, 1), (13, .laload, 1), (14, .l2i, 1), (15, .iadd, 1), (16, .istore_n 3, 1), (17, .aload_n 0, 1), (18, .getfield 13, 3), (21, .iload_n 1, 1), (22, .iaload, 1), (23, .ifCond .le 19, 3), (26, .bipush 10, 2), (28, .iload_n 3, 1), (29, .imul, 1), (30, .aload_n 0, 1), (31, .getfield 17, 3)] = true := by decide +kernel
theorem dX3_nameOf_0 : decode cX3_nameOf 0 = .ok (.bipush 17, 2) := decs_at bnd_x31_16 0 (x := (0, .bipush 17, 2)) rfl
theorem dX3_nameOf_2 : decode cX3_nameOf 2 = .ok (.iload_n 1, 1) := decs_at bnd_x31_16 1 (x := (2, .iload_n 1, 1)) rfl
theorem dX3_nameOf_3 : decode cX3_nameOf 3 = .ok (.imul, 1) := decs_at bnd_x31_16 2 (x := (3, .imul, 1)) rfl
theorem dX3_nameOf_4 : decode cX3_nameOf 4 = .ok (.istore_n 2, 1) := decs_at bnd_x31_16 3 (x := (4, .istore_n 2, 1)) rfl
theorem dX3_nameOf_5 : decode cX3_nameOf 5 = .ok (.iconst 1, 1) := decs_at bnd_x31_16 4 (x := (5, .iconst 1, 1)) rfl
theorem dX3_nameOf_6 : decode cX3_nameOf 6 = .ok (.aload_n 0, 1) := decs_at bnd_x31_16 5 (x := (6, .aload_n 0, 1)) rfl
theorem dX3_nameOf_7 : decode cX3_nameOf 7 = .ok (.getfield 17, 3) := decs_at bnd_x31_16 6 (x := (7, .getfield 17, 3)) rfl
theorem dX3_nameOf_10 : decode cX3_nameOf 10 = .ok (.iload_n 2, 1) := decs_at bnd_x31_16 7 (x := (10, .iload_n 2, 1)) rfl
theorem dX3_nameOf_11 : decode cX3_nameOf 11 = .ok (.iconst 4, 1) := decs_at bnd_x31_16 8 (x := (11, .iconst 4, 1)) rfl
theorem dX3_nameOf_12 : decode cX3_nameOf 12 = .ok (.iadd, 1) := decs_at bnd_x31_16 9 (x := (12, .iadd, 1)) rfl
theorem dX3_nameOf_13 : decode cX3_nameOf 13 = .ok (.laload, 1) := decs_at bnd_x31_16 10 (x := (13, .laload, 1)) rfl
theorem dX3_nameOf_14 : decode cX3_nameOf 14 = .ok (.l2i, 1) := decs_at bnd_x31_16 11 (x := (14, .l2i, 1)) rfl
theorem dX3_nameOf_15 : decode cX3_nameOf 15 = .ok (.iadd, 1) := decs_at bnd_x31_16 12 (x := (15, .iadd, 1)) rfl
theorem dX3_nameOf_16 : decode cX3_nameOf 16 = .ok (.istore_n 3, 1) := decs_at bnd_x31_16 13 (x := (16, .istore_n 3, 1)) rfl
theorem dX3_nameOf_17 : decode cX3_nameOf 17 = .ok (.aload_n 0, 1) := decs_at bnd_x31_16 14 (x := (17, .aload_n 0, 1)) rfl
theorem dX3_nameOf_18 : decode cX3_nameOf 18 = .ok (.getfield 13, 3) := decs_at bnd_x31_16 15 (x := (18, .getfield 13, 3)) rfl
theorem dX3_nameOf_21 : decode cX3_nameOf 21 = .ok (.iload_n 1, 1) := decs_at bnd_x31_16 16 (x := (21, .iload_n 1, 1)) rfl
theorem dX3_nameOf_22 : decode cX3_nameOf 22 = .ok (.iaload, 1) := decs_at bnd_x31_16 17 (x := (22, .iaload, 1)) rfl
theorem dX3_nameOf_23 : decode cX3_nameOf 23 = .ok (.ifCond .le 19, 3) := decs_at bnd_x31_16 18 (x := (23, .ifCond .le 19, 3)) rfl
theorem dX3_nameOf_26 : decode cX3_nameOf 26 = .ok (.bipush 10, 2) := decs_at bnd_x31_16 19 (x := (26, .bipush 10, 2)) rfl
theorem dX3_nameOf_28 : decode cX3_nameOf 28 = .ok (.iload_n 3, 1) := decs_at bnd_x31_16 20 (x := (28, .iload_n 3, 1)) rfl
theorem dX3_nameOf_29 : decode cX3_nameOf 29 = .ok (.imul, 1) := decs_at bnd_x31_16 21 (x := (29, .imul, 1)) rfl
theorem dX3_nameOf_30 : decode cX3_nameOf 30 = .ok (.aload_n 0, 1) := decs_at bnd_x31_16 22 (x := (30, .aload_n 0, 1)) rfl
theorem dX3_nameOf_31 : decode cX3_nameOf 31 = .ok (.getfield 17, 3) := decs_at bnd_x31_16 23 (x := (31, .getfield 17, 3)) rfl
theorem bnd_x31_17 : decs cX3_nameOf [(34, .iload_n 2, 1), (35, .bipush 10, 2), (37, .iadd, 1), (38, .laload, 1), (39, .l2i, 1), (40, .iadd, 1), (41, .istore_n 3, 1), (42, .aload_n 0, 1), (43, .getfield 13, 3), (46, .iload_n 1, 1), (47, .iaload, 1), (48, .iconst 2, 1), (49, .if_icmp .ne 18, 3), (52, .iload_n 3, 1), (53, .aload_n 0, 1), (54, .getfield 17, 3), (57, .iload_n 2, 1), (58, .bipush 13, 2), (60, .iadd, 1), (61, .laload, 1), (62, .l2i, 1), (63, .iadd, 1), (64, .goto 4, 3), (67, .iload_n 3, 1)] = true := by decide +kernel
theorem dX3_nameOf_34 : decode cX3_nameOf 34 = .ok (.iload_n 2, 1) := decs_at bnd_x31_17 0 (x := (34, .iload_n 2, 1)) rfl
theorem dX3_nameOf_35 : decode cX3_nameOf 35 = .ok (.bipush 10, 2) := decs_at bnd_x31_17 1 (x := (35, .bipush 10, 2)) rfl
theorem dX3_nameOf_37 : decode cX3_nameOf 37 = .ok (.iadd, 1) := decs_at bnd_x31_17 2 (x := (37, .iadd, 1)) rfl
theorem dX3_nameOf_38 : decode cX3_nameOf 38 = .ok (.laload, 1) := decs_at bnd_x31_17 3 (x := (38, .laload, 1)) rfl
theorem dX3_nameOf_39 : decode cX3_nameOf 39 = .ok (.l2i, 1) := decs_at bnd_x31_17 4 (x := (39, .l2i, 1)) rfl
theorem dX3_nameOf_40 : decode cX3_nameOf 40 = .ok (.iadd, 1) := decs_at bnd_x31_17 5 (x := (40, .iadd, 1)) rfl
theorem dX3_nameOf_41 : decode cX3_nameOf 41 = .ok (.istore_n 3, 1) := decs_at bnd_x31_17 6 (x := (41, .istore_n 3, 1)) rfl
theorem dX3_nameOf_42 : decode cX3_nameOf 42 = .ok (.aload_n 0, 1) := decs_at bnd_x31_17 7 (x := (42, .aload_n 0, 1)) rfl
theorem dX3_nameOf_43 : decode cX3_nameOf 43 = .ok (.getfield 13, 3) := decs_at bnd_x31_17 8 (x := (43, .getfield 13, 3)) rfl
theorem dX3_nameOf_46 : decode cX3_nameOf 46 = .ok (.iload_n 1, 1) := decs_at bnd_x31_17 9 (x := (46, .iload_n 1, 1)) rfl
theorem dX3_nameOf_47 : decode cX3_nameOf 47 = .ok (.iaload, 1) := decs_at bnd_x31_17 10 (x := (47, .iaload, 1)) rfl
theorem dX3_nameOf_48 : decode cX3_nameOf 48 = .ok (.iconst 2, 1) := decs_at bnd_x31_17 11 (x := (48, .iconst 2, 1)) rfl
theorem dX3_nameOf_49 : decode cX3_nameOf 49 = .ok (.if_icmp .ne 18, 3) := decs_at bnd_x31_17 12 (x := (49, .if_icmp .ne 18, 3)) rfl
theorem dX3_nameOf_52 : decode cX3_nameOf 52 = .ok (.iload_n 3, 1) := decs_at bnd_x31_17 13 (x := (52, .iload_n 3, 1)) rfl
theorem dX3_nameOf_53 : decode cX3_nameOf 53 = .ok (.aload_n 0, 1) := decs_at bnd_x31_17 14 (x := (53, .aload_n 0, 1)) rfl
theorem dX3_nameOf_54 : decode cX3_nameOf 54 = .ok (.getfield 17, 3) := decs_at bnd_x31_17 15 (x := (54, .getfield 17, 3)) rfl
theorem dX3_nameOf_57 : decode cX3_nameOf 57 = .ok (.iload_n 2, 1) := decs_at bnd_x31_17 16 (x := (57, .iload_n 2, 1)) rfl
theorem dX3_nameOf_58 : decode cX3_nameOf 58 = .ok (.bipush 13, 2) := decs_at bnd_x31_17 17 (x := (58, .bipush 13, 2)) rfl
theorem dX3_nameOf_60 : decode cX3_nameOf 60 = .ok (.iadd, 1) := decs_at bnd_x31_17 18 (x := (60, .iadd, 1)) rfl
theorem dX3_nameOf_61 : decode cX3_nameOf 61 = .ok (.laload, 1) := decs_at bnd_x31_17 19 (x := (61, .laload, 1)) rfl
theorem dX3_nameOf_62 : decode cX3_nameOf 62 = .ok (.l2i, 1) := decs_at bnd_x31_17 20 (x := (62, .l2i, 1)) rfl
theorem dX3_nameOf_63 : decode cX3_nameOf 63 = .ok (.iadd, 1) := decs_at bnd_x31_17 21 (x := (63, .iadd, 1)) rfl
theorem dX3_nameOf_64 : decode cX3_nameOf 64 = .ok (.goto 4, 3) := decs_at bnd_x31_17 22 (x := (64, .goto 4, 3)) rfl
theorem dX3_nameOf_67 : decode cX3_nameOf 67 = .ok (.iload_n 3, 1) := decs_at bnd_x31_17 23 (x := (67, .iload_n 3, 1)) rfl
theorem dX3_nameOf_68 : decode cX3_nameOf 68 = .ok (.ireturn, 1) := by decide +kernel
theorem bnd_x31_18 : decs cX3_depthOf [(0, .iconst (-1), 1), (1, .istore_n 2, 1), (2, .iload_n 1, 1), (3, .istore_n 3, 1), (4, .iload_n 3, 1), (5, .iconst (-1), 1), (6, .if_icmp .eq 58, 3), (9, .iload_n 2, 1), (10, .bipush 50, 2), (12, .if_icmp .ge 52, 3), (15, .iinc 2 1, 3), (18, .aload_n 0, 1), (19, .getfield 13, 3), (22, .iload_n 3, 1), (23, .iaload, 1), (24, .istore 4, 2), (26, .aload_n 0, 1), (27, .getfield 17, 3), (30, .bipush 17, 2), (32, .iload_n 3, 1), (33, .imul, 1), (34, .iload 4, 2), (36, .ifCond .ne 8, 3), (39, .bipush 8, 2)] = true := by decide +kernel
theorem dX3_depthOf_0 : decode cX3_depthOf 0 = .ok (.iconst (-1), 1) := decs_at bnd_x31_18 0 (x := (0, .iconst (-1), 1)) rfl
theorem dX3_depthOf_1 : decode cX3_depthOf 1 = .ok (.istore_n 2, 1) := decs_at bnd_x31_18 1 (x := (1, .istore_n 2, 1)) rfl
theorem dX3_depthOf_2 : decode cX3_depthOf 2 = .ok (.iload_n 1, 1) := decs_at bnd_x31_18 2 (x := (2, .iload_n 1, 1)) rfl
theorem dX3_depthOf_3 : decode cX3_depthOf 3 = .ok (.istore_n 3, 1) := decs_at bnd_x31_18 3 (x := (3, .istore_n 3, 1)) rfl
theorem dX3_depthOf_4 : decode cX3_depthOf 4 = .ok (.iload_n 3, 1) := decs_at bnd_x31_18 4 (x := (4, .iload_n 3, 1)) rfl
theorem dX3_depthOf_5 : decode cX3_depthOf 5 = .ok (.iconst (-1), 1) := decs_at bnd_x31_18 5 (x := (5, .iconst (-1), 1)) rfl
theorem dX3_depthOf_6 : decode cX3_depthOf 6 = .ok (.if_icmp .eq 58, 3) := decs_at bnd_x31_18 6 (x := (6, .if_icmp .eq 58, 3)) rfl
theorem dX3_depthOf_9 : decode cX3_depthOf 9 = .ok (.iload_n 2, 1) := decs_at bnd_x31_18 7 (x := (9, .iload_n 2, 1)) rfl
theorem dX3_depthOf_10 : decode cX3_depthOf 10 = .ok (.bipush 50, 2) := decs_at bnd_x31_18 8 (x := (10, .bipush 50, 2)) rfl
theorem dX3_depthOf_12 : decode cX3_depthOf 12 = .ok (.if_icmp .ge 52, 3) := decs_at bnd_x31_18 9 (x := (12, .if_icmp .ge 52, 3)) rfl
theorem dX3_depthOf_15 : decode cX3_depthOf 15 = .ok (.iinc 2 1, 3) := decs_at bnd_x31_18 10 (x := (15, .iinc 2 1, 3)) rfl
theorem dX3_depthOf_18 : decode cX3_depthOf 18 = .ok (.aload_n 0, 1) := decs_at bnd_x31_18 11 (x := (18, .aload_n 0, 1)) rfl
theorem dX3_depthOf_19 : decode cX3_depthOf 19 = .ok (.getfield 13, 3) := decs_at bnd_x31_18 12 (x := (19, .getfield 13, 3)) rfl
theorem dX3_depthOf_22 : decode cX3_depthOf 22 = .ok (.iload_n 3, 1) := decs_at bnd_x31_18 13 (x := (22, .iload_n 3, 1)) rfl
theorem dX3_depthOf_23 : decode cX3_depthOf 23 = .ok (.iaload, 1) := decs_at bnd_x31_18 14 (x := (23, .iaload, 1)) rfl
theorem dX3_depthOf_24 : decode cX3_depthOf 24 = .ok (.istore 4, 2) := decs_at bnd_x31_18 15 (x := (24, .istore 4, 2)) rfl
theorem dX3_depthOf_26 : decode cX3_depthOf 26 = .ok (.aload_n 0, 1) := decs_at bnd_x31_18 16 (x := (26, .aload_n 0, 1)) rfl
theorem dX3_depthOf_27 : decode cX3_depthOf 27 = .ok (.getfield 17, 3) := decs_at bnd_x31_18 17 (x := (27, .getfield 17, 3)) rfl
theorem dX3_depthOf_30 : decode cX3_depthOf 30 = .ok (.bipush 17, 2) := decs_at bnd_x31_18 18 (x := (30, .bipush 17, 2)) rfl
theorem dX3_depthOf_32 : decode cX3_depthOf 32 = .ok (.iload_n 3, 1) := decs_at bnd_x31_18 19 (x := (32, .iload_n 3, 1)) rfl
theorem dX3_depthOf_33 : decode cX3_depthOf 33 = .ok (.imul, 1) := decs_at bnd_x31_18 20 (x := (33, .imul, 1)) rfl
theorem dX3_depthOf_34 : decode cX3_depthOf 34 = .ok (.iload 4, 2) := decs_at bnd_x31_18 21 (x := (34, .iload 4, 2)) rfl
theorem dX3_depthOf_36 : decode cX3_depthOf 36 = .ok (.ifCond .ne 8, 3) := decs_at bnd_x31_18 22 (x := (36, .ifCond .ne 8, 3)) rfl
theorem dX3_depthOf_39 : decode cX3_depthOf 39 = .ok (.bipush 8, 2) := decs_at bnd_x31_18 23 (x := (39, .bipush 8, 2)) rfl
theorem bnd_x31_19 : decs cX3_depthOf [(41, .goto 16, 3), (44, .iload 4, 2), (46, .iconst 3, 1), (47, .if_icmp .ne 8, 3), (50, .bipush 15, 2), (52, .goto 5, 3), (55, .bipush 11, 2), (57, .iadd, 1), (58, .laload, 1), (59, .l2i, 1), (60, .istore_n 3, 1), (61, .goto (-57), 3), (64, .iload_n 2, 1), (65, .ireturn, 1)] = true := by decide +kernel
theorem dX3_depthOf_41 : decode cX3_depthOf 41 = .ok (.goto 16, 3) := decs_at bnd_x31_19 0 (x := (41, .goto 16, 3)) rfl
theorem dX3_depthOf_44 : decode cX3_depthOf 44 = .ok (.iload 4, 2) := decs_at bnd_x31_19 1 (x := (44, .iload 4, 2)) rfl
theorem dX3_depthOf_46 : decode cX3_depthOf 46 = .ok (.iconst 3, 1) := decs_at bnd_x31_19 2 (x := (46, .iconst 3, 1)) rfl
theorem dX3_depthOf_47 : decode cX3_depthOf 47 = .ok (.if_icmp .ne 8, 3) := decs_at bnd_x31_19 3 (x := (47, .if_icmp .ne 8, 3)) rfl
theorem dX3_depthOf_50 : decode cX3_depthOf 50 = .ok (.bipush 15, 2) := decs_at bnd_x31_19 4 (x := (50, .bipush 15, 2)) rfl
theorem dX3_depthOf_52 : decode cX3_depthOf 52 = .ok (.goto 5, 3) := decs_at bnd_x31_19 5 (x := (52, .goto 5, 3)) rfl
theorem dX3_depthOf_55 : decode cX3_depthOf 55 = .ok (.bipush 11, 2) := decs_at bnd_x31_19 6 (x := (55, .bipush 11, 2)) rfl
theorem dX3_depthOf_57 : decode cX3_depthOf 57 = .ok (.iadd, 1) := decs_at bnd_x31_19 7 (x := (57, .iadd, 1)) rfl
theorem dX3_depthOf_58 : decode cX3_depthOf 58 = .ok (.laload, 1) := decs_at bnd_x31_19 8 (x := (58, .laload, 1)) rfl
theorem dX3_depthOf_59 : decode cX3_depthOf 59 = .ok (.l2i, 1) := decs_at bnd_x31_19 9 (x := (59, .l2i, 1)) rfl
theorem dX3_depthOf_60 : decode cX3_depthOf 60 = .ok (.istore_n 3, 1) := decs_at bnd_x31_19 10 (x := (60, .istore_n 3, 1)) rfl
theorem dX3_depthOf_61 : decode cX3_depthOf 61 = .ok (.goto (-57), 3) := decs_at bnd_x31_19 11 (x := (61, .goto (-57), 3)) rfl
theorem dX3_depthOf_64 : decode cX3_depthOf 64 = .ok (.iload_n 2, 1) := decs_at bnd_x31_19 12 (x := (64, .iload_n 2, 1)) rfl
theorem dX3_depthOf_65 : decode cX3_depthOf 65 = .ok (.ireturn, 1) := decs_at bnd_x31_19 13 (x := (65, .ireturn, 1)) rfl
theorem bnd_x31_20 : decs cX3_kindOf [(0, .iconst 0, 1), (1, .istore_n 2, 1), (2, .iconst 1, 1), (3, .istore_n 3, 1), (4, .iload_n 1, 1), (5, .istore 4, 2), (7, .iconst 0, 1), (8, .istore 5, 2), (10, .iload 5, 2), (12, .bipush 8, 2), (14, .if_icmp .ge 81, 3), (17, .iload 4, 2), (19, .iconst (-1), 1), (20, .if_icmp .eq 75, 3), (23, .iload_n 2, 1), (24, .iload_n 3, 1), (25, .aload_n 0, 1), (26, .getfield 13, 3), (29, .iload 4, 2), (31, .iaload, 1), (32, .iconst 3, 1), (33, .if_icmp .ne 8, 3), (36, .bipush 7, 2), (38, .goto 12, 3)] = true := by decide +kernel
theorem dX3_kindOf_0 : decode cX3_kindOf 0 = .ok (.iconst 0, 1) := decs_at bnd_x31_20 0 (x := (0, .iconst 0, 1)) rfl
theorem dX3_kindOf_1 : decode cX3_kindOf 1 = .ok (.istore_n 2, 1) := decs_at bnd_x31_20 1 (x := (1, .istore_n 2, 1)) rfl
theorem dX3_kindOf_2 : decode cX3_kindOf 2 = .ok (.iconst 1, 1) := decs_at bnd_x31_20 2 (x := (2, .iconst 1, 1)) rfl
theorem dX3_kindOf_3 : decode cX3_kindOf 3 = .ok (.istore_n 3, 1) := decs_at bnd_x31_20 3 (x := (3, .istore_n 3, 1)) rfl
theorem dX3_kindOf_4 : decode cX3_kindOf 4 = .ok (.iload_n 1, 1) := decs_at bnd_x31_20 4 (x := (4, .iload_n 1, 1)) rfl
theorem dX3_kindOf_5 : decode cX3_kindOf 5 = .ok (.istore 4, 2) := decs_at bnd_x31_20 5 (x := (5, .istore 4, 2)) rfl
theorem dX3_kindOf_7 : decode cX3_kindOf 7 = .ok (.iconst 0, 1) := decs_at bnd_x31_20 6 (x := (7, .iconst 0, 1)) rfl
theorem dX3_kindOf_8 : decode cX3_kindOf 8 = .ok (.istore 5, 2) := decs_at bnd_x31_20 7 (x := (8, .istore 5, 2)) rfl
theorem dX3_kindOf_10 : decode cX3_kindOf 10 = .ok (.iload 5, 2) := decs_at bnd_x31_20 8 (x := (10, .iload 5, 2)) rfl
theorem dX3_kindOf_12 : decode cX3_kindOf 12 = .ok (.bipush 8, 2) := decs_at bnd_x31_20 9 (x := (12, .bipush 8, 2)) rfl
theorem dX3_kindOf_14 : decode cX3_kindOf 14 = .ok (.if_icmp .ge 81, 3) := decs_at bnd_x31_20 10 (x := (14, .if_icmp .ge 81, 3)) rfl
theorem dX3_kindOf_17 : decode cX3_kindOf 17 = .ok (.iload 4, 2) := decs_at bnd_x31_20 11 (x := (17, .iload 4, 2)) rfl
theorem dX3_kindOf_19 : decode cX3_kindOf 19 = .ok (.iconst (-1), 1) := decs_at bnd_x31_20 12 (x := (19, .iconst (-1), 1)) rfl
theorem dX3_kindOf_20 : decode cX3_kindOf 20 = .ok (.if_icmp .eq 75, 3) := decs_at bnd_x31_20 13 (x := (20, .if_icmp .eq 75, 3)) rfl
theorem dX3_kindOf_23 : decode cX3_kindOf 23 = .ok (.iload_n 2, 1) := decs_at bnd_x31_20 14 (x := (23, .iload_n 2, 1)) rfl
theorem dX3_kindOf_24 : decode cX3_kindOf 24 = .ok (.iload_n 3, 1) := decs_at bnd_x31_20 15 (x := (24, .iload_n 3, 1)) rfl
theorem dX3_kindOf_25 : decode cX3_kindOf 25 = .ok (.aload_n 0, 1) := decs_at bnd_x31_20 16 (x := (25, .aload_n 0, 1)) rfl
theorem dX3_kindOf_26 : decode cX3_kindOf 26 = .ok (.getfield 13, 3) := decs_at bnd_x31_20 17 (x := (26, .getfield 13, 3)) rfl
theorem dX3_kindOf_29 : decode cX3_kindOf 29 = .ok (.iload 4, 2) := decs_at bnd_x31_20 18 (x := (29, .iload 4, 2)) rfl
theorem dX3_kindOf_31 : decode cX3_kindOf 31 = .ok (.iaload, 1) := decs_at bnd_x31_20 19 (x := (31, .iaload, 1)) rfl
theorem dX3_kindOf_32 : decode cX3_kindOf 32 = .ok (.iconst 3, 1) := decs_at bnd_x31_20 20 (x := (32, .iconst 3, 1)) rfl
theorem dX3_kindOf_33 : decode cX3_kindOf 33 = .ok (.if_icmp .ne 8, 3) := decs_at bnd_x31_20 21 (x := (33, .if_icmp .ne 8, 3)) rfl
theorem dX3_kindOf_36 : decode cX3_kindOf 36 = .ok (.bipush 7, 2) := decs_at bnd_x31_20 22 (x := (36, .bipush 7, 2)) rfl
theorem dX3_kindOf_38 : decode cX3_kindOf 38 = .ok (.goto 12, 3) := decs_at bnd_x31_20 23 (x := (38, .goto 12, 3)) rfl
theorem bnd_x31_21 : decs cX3_kindOf [(41, .aload_n 0, 1), (42, .getfield 13, 3), (45, .iload 4, 2), (47, .iaload, 1), (48, .iconst 1, 1), (49, .iadd, 1), (50, .imul, 1), (51, .iadd, 1), (52, .istore_n 2, 1), (53, .iload_n 3, 1), (54, .bipush 10, 2), (56, .imul, 1), (57, .istore_n 3, 1), (58, .aload_n 0, 1), (59, .getfield 13, 3), (62, .iload 4, 2), (64, .iaload, 1), (65, .iconst 3, 1), (66, .if_icmp .ne 7, 3), (69, .iconst (-1), 1), (70, .goto 17, 3), (73, .aload_n 0, 1), (74, .getfield 17, 3), (77, .bipush 17, 2)] = true := by decide +kernel
theorem dX3_kindOf_41 : decode cX3_kindOf 41 = .ok (.aload_n 0, 1) := decs_at bnd_x31_21 0 (x := (41, .aload_n 0, 1)) rfl
theorem dX3_kindOf_42 : decode cX3_kindOf 42 = .ok (.getfield 13, 3) := decs_at bnd_x31_21 1 (x := (42, .getfield 13, 3)) rfl
theorem dX3_kindOf_45 : decode cX3_kindOf 45 = .ok (.iload 4, 2) := decs_at bnd_x31_21 2 (x := (45, .iload 4, 2)) rfl
theorem dX3_kindOf_47 : decode cX3_kindOf 47 = .ok (.iaload, 1) := decs_at bnd_x31_21 3 (x := (47, .iaload, 1)) rfl
theorem dX3_kindOf_48 : decode cX3_kindOf 48 = .ok (.iconst 1, 1) := decs_at bnd_x31_21 4 (x := (48, .iconst 1, 1)) rfl
theorem dX3_kindOf_49 : decode cX3_kindOf 49 = .ok (.iadd, 1) := decs_at bnd_x31_21 5 (x := (49, .iadd, 1)) rfl
theorem dX3_kindOf_50 : decode cX3_kindOf 50 = .ok (.imul, 1) := decs_at bnd_x31_21 6 (x := (50, .imul, 1)) rfl
theorem dX3_kindOf_51 : decode cX3_kindOf 51 = .ok (.iadd, 1) := decs_at bnd_x31_21 7 (x := (51, .iadd, 1)) rfl
theorem dX3_kindOf_52 : decode cX3_kindOf 52 = .ok (.istore_n 2, 1) := decs_at bnd_x31_21 8 (x := (52, .istore_n 2, 1)) rfl
theorem dX3_kindOf_53 : decode cX3_kindOf 53 = .ok (.iload_n 3, 1) := decs_at bnd_x31_21 9 (x := (53, .iload_n 3, 1)) rfl
theorem dX3_kindOf_54 : decode cX3_kindOf 54 = .ok (.bipush 10, 2) := decs_at bnd_x31_21 10 (x := (54, .bipush 10, 2)) rfl
theorem dX3_kindOf_56 : decode cX3_kindOf 56 = .ok (.imul, 1) := decs_at bnd_x31_21 11 (x := (56, .imul, 1)) rfl
theorem dX3_kindOf_57 : decode cX3_kindOf 57 = .ok (.istore_n 3, 1) := decs_at bnd_x31_21 12 (x := (57, .istore_n 3, 1)) rfl
theorem dX3_kindOf_58 : decode cX3_kindOf 58 = .ok (.aload_n 0, 1) := decs_at bnd_x31_21 13 (x := (58, .aload_n 0, 1)) rfl
theorem dX3_kindOf_59 : decode cX3_kindOf 59 = .ok (.getfield 13, 3) := decs_at bnd_x31_21 14 (x := (59, .getfield 13, 3)) rfl
theorem dX3_kindOf_62 : decode cX3_kindOf 62 = .ok (.iload 4, 2) := decs_at bnd_x31_21 15 (x := (62, .iload 4, 2)) rfl
theorem dX3_kindOf_64 : decode cX3_kindOf 64 = .ok (.iaload, 1) := decs_at bnd_x31_21 16 (x := (64, .iaload, 1)) rfl
theorem dX3_kindOf_65 : decode cX3_kindOf 65 = .ok (.iconst 3, 1) := decs_at bnd_x31_21 17 (x := (65, .iconst 3, 1)) rfl
theorem dX3_kindOf_66 : decode cX3_kindOf 66 = .ok (.if_icmp .ne 7, 3) := decs_at bnd_x31_21 18 (x := (66, .if_icmp .ne 7, 3)) rfl
theorem dX3_kindOf_69 : decode cX3_kindOf 69 = .ok (.iconst (-1), 1) := decs_at bnd_x31_21 19 (x := (69, .iconst (-1), 1)) rfl
theorem dX3_kindOf_70 : decode cX3_kindOf 70 = .ok (.goto 17, 3) := decs_at bnd_x31_21 20 (x := (70, .goto 17, 3)) rfl
theorem dX3_kindOf_73 : decode cX3_kindOf 73 = .ok (.aload_n 0, 1) := decs_at bnd_x31_21 21 (x := (73, .aload_n 0, 1)) rfl
theorem dX3_kindOf_74 : decode cX3_kindOf 74 = .ok (.getfield 17, 3) := decs_at bnd_x31_21 22 (x := (74, .getfield 17, 3)) rfl
theorem dX3_kindOf_77 : decode cX3_kindOf 77 = .ok (.bipush 17, 2) := decs_at bnd_x31_21 23 (x := (77, .bipush 17, 2)) rfl
theorem bnd_x31_22 : decs cX3_kindOf [(79, .iload 4, 2), (81, .imul, 1), (82, .bipush 8, 2), (84, .iadd, 1), (85, .laload, 1), (86, .l2i, 1), (87, .istore 4, 2), (89, .iinc 5 1, 3), (92, .goto (-82), 3), (95, .iload_n 2, 1), (96, .ireturn, 1)] = true := by decide +kernel
theorem dX3_kindOf_79 : decode cX3_kindOf 79 = .ok (.iload 4, 2) := decs_at bnd_x31_22 0 (x := (79, .iload 4, 2)) rfl
theorem dX3_kindOf_81 : decode cX3_kindOf 81 = .ok (.imul, 1) := decs_at bnd_x31_22 1 (x := (81, .imul, 1)) rfl
theorem dX3_kindOf_82 : decode cX3_kindOf 82 = .ok (.bipush 8, 2) := decs_at bnd_x31_22 2 (x := (82, .bipush 8, 2)) rfl
theorem dX3_kindOf_84 : decode cX3_kindOf 84 = .ok (.iadd, 1) := decs_at bnd_x31_22 3 (x := (84, .iadd, 1)) rfl
theorem dX3_kindOf_85 : decode cX3_kindOf 85 = .ok (.laload, 1) := decs_at bnd_x31_22 4 (x := (85, .laload, 1)) rfl
theorem dX3_kindOf_86 : decode cX3_kindOf 86 = .ok (.l2i, 1) := decs_at bnd_x31_22 5 (x := (86, .l2i, 1)) rfl
theorem dX3_kindOf_87 : decode cX3_kindOf 87 = .ok (.istore 4, 2) := decs_at bnd_x31_22 6 (x := (87, .istore 4, 2)) rfl
theorem dX3_kindOf_89 : decode cX3_kindOf 89 = .ok (.iinc 5 1, 3) := decs_at bnd_x31_22 7 (x := (89, .iinc 5 1, 3)) rfl
theorem dX3_kindOf_92 : decode cX3_kindOf 92 = .ok (.goto (-82), 3) := decs_at bnd_x31_22 8 (x := (92, .goto (-82), 3)) rfl
theorem dX3_kindOf_95 : decode cX3_kindOf 95 = .ok (.iload_n 2, 1) := decs_at bnd_x31_22 9 (x := (95, .iload_n 2, 1)) rfl
theorem dX3_kindOf_96 : decode cX3_kindOf 96 = .ok (.ireturn, 1) := decs_at bnd_x31_22 10 (x := (96, .ireturn, 1)) rfl
set_option maxRecDepth 20000 in
theorem ggX3_call_X3_isSlot : GoodIn wsX3_call wsX3_isSlot := goodIn_r _ [8, 9, 10, 11, 7, 12] rfl (by decide +kernel)
set_option maxRecDepth 20000 in
theorem gX3_call_X3_isSlot : GoodIn wsX3_call (va_wsS RX3 84 yX3_isSlot wsX3_isSlot) := goodIn_app (goodIn_r _ [5, 6, 7] rfl (by decide +kernel)) ggX3_call_X3_isSlot
set_option maxRecDepth 20000 in
theorem ggX3_call_X3_in : GoodIn wsX3_call wsX3_in := goodIn_r _ [12] rfl (by decide +kernel)
set_option maxRecDepth 20000 in
theorem gX3_call_X3_in : GoodIn wsX3_call (va_wsS RX3 70 yX3_in wsX3_in) := goodIn_app (goodIn_r _ [10, 11, 7] rfl (by decide +kernel)) ggX3_call_X3_in
set_option maxRecDepth 20000 in
theorem ggX3_call_X3_isBelow : GoodIn wsX3_call wsX3_isBelow := goodIn_r _ [15] rfl (by decide +kernel)
set_option maxRecDepth 20000 in
theorem gX3_call_X3_isBelow : GoodIn wsX3_call (va_wsS RX3 100 yX3_isBelow wsX3_isBelow) := goodIn_app (goodIn_r _ [13, 14, 7] rfl (by decide +kernel)) ggX3_call_X3_isBelow
set_option maxRecDepth 20000 in
theorem ggX3_call_X3_nameOf : GoodIn wsX3_call wsX3_nameOf := goodIn_r _ [19, 4, 3, 28, 29, 30, 31, 32, 33, 34, 35, 36, 37, 38, 39, 40, 41, 42, 43, 44, 45, 46, 47, 48, 49, 50] rfl (by decide +kernel)
set_option maxRecDepth 20000 in
theorem gX3_call_X3_nameOf : GoodIn wsX3_call (wsV RX3 144 RX3 yX3_nameOf wsX3_nameOf) := goodIn_app (goodIn_r _ [16, 17, 18, 7] rfl (by decide +kernel)) ggX3_call_X3_nameOf
set_option maxRecDepth 20000 in
theorem ggX3_call_X3_depthOf : GoodIn wsX3_call wsX3_depthOf := goodIn_r _ [23, 3, 4, 28, 29, 30, 31, 32, 33, 34, 35, 36, 37, 38, 39, 40, 41, 42, 43, 44, 45, 46, 47, 48, 49, 50] rfl (by decide +kernel)
set_option maxRecDepth 20000 in
theorem gX3_call_X3_depthOf : GoodIn wsX3_call (wsV RX3 147 RX3 yX3_depthOf wsX3_depthOf) := goodIn_app (goodIn_r _ [20, 21, 22, 7] rfl (by decide +kernel)) ggX3_call_X3_depthOf
set_option maxRecDepth 20000 in
theorem ggX3_call_X3_kindOf : GoodIn wsX3_call wsX3_kindOf := goodIn_r _ [27, 3, 4, 28, 29, 30, 31, 32, 33, 34, 35, 36, 37, 38, 39, 40, 41, 42, 43, 44, 45, 46, 47, 48, 49, 50] rfl (by decide +kernel)
set_option maxRecDepth 20000 in
theorem gX3_call_X3_kindOf : GoodIn wsX3_call (wsV RX3 150 RX3 yX3_kindOf wsX3_kindOf) := goodIn_app (goodIn_r _ [24, 25, 26, 7] rfl (by decide +kernel)) ggX3_call_X3_kindOf
theorem bnd_x31_23 : decs cX3_call [(0, .iload_n 1, 1), (1, .invokestatic 84, 3), (4, .ifCond .eq 15, 3), (7, .iload_n 2, 1), (8, .i2l, 1), (9, .lconst 0, 1), (10, .ldc2_w 87, 3), (13, .invokestatic 70, 3), (16, .ifCond .ne 5, 3), (19, .iconst (-1), 1), (20, .ireturn, 1), (21, .aload_n 0, 1), (22, .getfield 7, 3), (25, .iload_n 1, 1), (26, .iaload, 1), (27, .istore_n 3, 1), (28, .iload_n 3, 1), (29, .iconst (-1), 1), (30, .if_icmp .ne 6, 3), (33, .bipush (-11), 2), (35, .ireturn, 1), (36, .aload_n 0, 1), (37, .getfield 13, 3), (40, .iload_n 3, 1)] = true := by decide +kernel
theorem dX3_call_0 : decode cX3_call 0 = .ok (.iload_n 1, 1) := decs_at bnd_x31_23 0 (x := (0, .iload_n 1, 1)) rfl
theorem dX3_call_1 : decode cX3_call 1 = .ok (.invokestatic 84, 3) := decs_at bnd_x31_23 1 (x := (1, .invokestatic 84, 3)) rfl
theorem dX3_call_4 : decode cX3_call 4 = .ok (.ifCond .eq 15, 3) := decs_at bnd_x31_23 2 (x := (4, .ifCond .eq 15, 3)) rfl
theorem dX3_call_7 : decode cX3_call 7 = .ok (.iload_n 2, 1) := decs_at bnd_x31_23 3 (x := (7, .iload_n 2, 1)) rfl
theorem dX3_call_8 : decode cX3_call 8 = .ok (.i2l, 1) := decs_at bnd_x31_23 4 (x := (8, .i2l, 1)) rfl
theorem dX3_call_9 : decode cX3_call 9 = .ok (.lconst 0, 1) := decs_at bnd_x31_23 5 (x := (9, .lconst 0, 1)) rfl
theorem dX3_call_10 : decode cX3_call 10 = .ok (.ldc2_w 87, 3) := decs_at bnd_x31_23 6 (x := (10, .ldc2_w 87, 3)) rfl
theorem dX3_call_13 : decode cX3_call 13 = .ok (.invokestatic 70, 3) := decs_at bnd_x31_23 7 (x := (13, .invokestatic 70, 3)) rfl
theorem dX3_call_16 : decode cX3_call 16 = .ok (.ifCond .ne 5, 3) := decs_at bnd_x31_23 8 (x := (16, .ifCond .ne 5, 3)) rfl
theorem dX3_call_19 : decode cX3_call 19 = .ok (.iconst (-1), 1) := decs_at bnd_x31_23 9 (x := (19, .iconst (-1), 1)) rfl
theorem dX3_call_20 : decode cX3_call 20 = .ok (.ireturn, 1) := decs_at bnd_x31_23 10 (x := (20, .ireturn, 1)) rfl
theorem dX3_call_21 : decode cX3_call 21 = .ok (.aload_n 0, 1) := decs_at bnd_x31_23 11 (x := (21, .aload_n 0, 1)) rfl
theorem dX3_call_22 : decode cX3_call 22 = .ok (.getfield 7, 3) := decs_at bnd_x31_23 12 (x := (22, .getfield 7, 3)) rfl
theorem dX3_call_25 : decode cX3_call 25 = .ok (.iload_n 1, 1) := decs_at bnd_x31_23 13 (x := (25, .iload_n 1, 1)) rfl
theorem dX3_call_26 : decode cX3_call 26 = .ok (.iaload, 1) := decs_at bnd_x31_23 14 (x := (26, .iaload, 1)) rfl
theorem dX3_call_27 : decode cX3_call 27 = .ok (.istore_n 3, 1) := decs_at bnd_x31_23 15 (x := (27, .istore_n 3, 1)) rfl
theorem dX3_call_28 : decode cX3_call 28 = .ok (.iload_n 3, 1) := decs_at bnd_x31_23 16 (x := (28, .iload_n 3, 1)) rfl
theorem dX3_call_29 : decode cX3_call 29 = .ok (.iconst (-1), 1) := decs_at bnd_x31_23 17 (x := (29, .iconst (-1), 1)) rfl
theorem dX3_call_30 : decode cX3_call 30 = .ok (.if_icmp .ne 6, 3) := decs_at bnd_x31_23 18 (x := (30, .if_icmp .ne 6, 3)) rfl
theorem dX3_call_33 : decode cX3_call 33 = .ok (.bipush (-11), 2) := decs_at bnd_x31_23 19 (x := (33, .bipush (-11), 2)) rfl
theorem dX3_call_35 : decode cX3_call 35 = .ok (.ireturn, 1) := decs_at bnd_x31_23 20 (x := (35, .ireturn, 1)) rfl
theorem dX3_call_36 : decode cX3_call 36 = .ok (.aload_n 0, 1) := decs_at bnd_x31_23 21 (x := (36, .aload_n 0, 1)) rfl
theorem dX3_call_37 : decode cX3_call 37 = .ok (.getfield 13, 3) := decs_at bnd_x31_23 22 (x := (37, .getfield 13, 3)) rfl
theorem dX3_call_40 : decode cX3_call 40 = .ok (.iload_n 3, 1) := decs_at bnd_x31_23 23 (x := (40, .iload_n 3, 1)) rfl
theorem bnd_x31_24 : decs cX3_call [(41, .iaload, 1), (42, .iload_n 2, 1), (43, .iconst 2, 1), (44, .if_icmp .eq 8, 3), (47, .iload_n 2, 1), (48, .iconst 3, 1), (49, .if_icmp .ne 7, 3), (52, .iconst 5, 1), (53, .goto 4, 3), (56, .iconst 0, 1), (57, .invokestatic 100, 3), (60, .ifCond .ne 6, 3), (63, .bipush (-14), 2), (65, .ireturn, 1), (66, .iload_n 2, 1), (67, .tableswitch 72 0 3 #[29, 35, 60, 66], 29), (96, .aload_n 0, 1), (97, .iload_n 3, 1), (98, .invokevirtual 144, 3), (101, .ireturn, 1), (102, .aload_n 0, 1), (103, .getfield 17, 3), (106, .bipush 17, 2), (108, .iload_n 3, 1)] = true := by decide +kernel
theorem dX3_call_41 : decode cX3_call 41 = .ok (.iaload, 1) := decs_at bnd_x31_24 0 (x := (41, .iaload, 1)) rfl
theorem dX3_call_42 : decode cX3_call 42 = .ok (.iload_n 2, 1) := decs_at bnd_x31_24 1 (x := (42, .iload_n 2, 1)) rfl
theorem dX3_call_43 : decode cX3_call 43 = .ok (.iconst 2, 1) := decs_at bnd_x31_24 2 (x := (43, .iconst 2, 1)) rfl
theorem dX3_call_44 : decode cX3_call 44 = .ok (.if_icmp .eq 8, 3) := decs_at bnd_x31_24 3 (x := (44, .if_icmp .eq 8, 3)) rfl
theorem dX3_call_47 : decode cX3_call 47 = .ok (.iload_n 2, 1) := decs_at bnd_x31_24 4 (x := (47, .iload_n 2, 1)) rfl
theorem dX3_call_48 : decode cX3_call 48 = .ok (.iconst 3, 1) := decs_at bnd_x31_24 5 (x := (48, .iconst 3, 1)) rfl
theorem dX3_call_49 : decode cX3_call 49 = .ok (.if_icmp .ne 7, 3) := decs_at bnd_x31_24 6 (x := (49, .if_icmp .ne 7, 3)) rfl
theorem dX3_call_52 : decode cX3_call 52 = .ok (.iconst 5, 1) := decs_at bnd_x31_24 7 (x := (52, .iconst 5, 1)) rfl
theorem dX3_call_53 : decode cX3_call 53 = .ok (.goto 4, 3) := decs_at bnd_x31_24 8 (x := (53, .goto 4, 3)) rfl
theorem dX3_call_56 : decode cX3_call 56 = .ok (.iconst 0, 1) := decs_at bnd_x31_24 9 (x := (56, .iconst 0, 1)) rfl
theorem dX3_call_57 : decode cX3_call 57 = .ok (.invokestatic 100, 3) := decs_at bnd_x31_24 10 (x := (57, .invokestatic 100, 3)) rfl
theorem dX3_call_60 : decode cX3_call 60 = .ok (.ifCond .ne 6, 3) := decs_at bnd_x31_24 11 (x := (60, .ifCond .ne 6, 3)) rfl
theorem dX3_call_63 : decode cX3_call 63 = .ok (.bipush (-14), 2) := decs_at bnd_x31_24 12 (x := (63, .bipush (-14), 2)) rfl
theorem dX3_call_65 : decode cX3_call 65 = .ok (.ireturn, 1) := decs_at bnd_x31_24 13 (x := (65, .ireturn, 1)) rfl
theorem dX3_call_66 : decode cX3_call 66 = .ok (.iload_n 2, 1) := decs_at bnd_x31_24 14 (x := (66, .iload_n 2, 1)) rfl
theorem dX3_call_67 : decode cX3_call 67 = .ok (.tableswitch 72 0 3 #[29, 35, 60, 66], 29) := decs_at bnd_x31_24 15 (x := (67, .tableswitch 72 0 3 #[29, 35, 60, 66], 29)) rfl
theorem dX3_call_96 : decode cX3_call 96 = .ok (.aload_n 0, 1) := decs_at bnd_x31_24 16 (x := (96, .aload_n 0, 1)) rfl
theorem dX3_call_97 : decode cX3_call 97 = .ok (.iload_n 3, 1) := decs_at bnd_x31_24 17 (x := (97, .iload_n 3, 1)) rfl
theorem dX3_call_98 : decode cX3_call 98 = .ok (.invokevirtual 144, 3) := decs_at bnd_x31_24 18 (x := (98, .invokevirtual 144, 3)) rfl
theorem dX3_call_101 : decode cX3_call 101 = .ok (.ireturn, 1) := decs_at bnd_x31_24 19 (x := (101, .ireturn, 1)) rfl
theorem dX3_call_102 : decode cX3_call 102 = .ok (.aload_n 0, 1) := decs_at bnd_x31_24 20 (x := (102, .aload_n 0, 1)) rfl
theorem dX3_call_103 : decode cX3_call 103 = .ok (.getfield 17, 3) := decs_at bnd_x31_24 21 (x := (103, .getfield 17, 3)) rfl
theorem dX3_call_106 : decode cX3_call 106 = .ok (.bipush 17, 2) := decs_at bnd_x31_24 22 (x := (106, .bipush 17, 2)) rfl
theorem dX3_call_108 : decode cX3_call 108 = .ok (.iload_n 3, 1) := decs_at bnd_x31_24 23 (x := (108, .iload_n 3, 1)) rfl
theorem bnd_x31_25 : decs cX3_call [(109, .imul, 1), (110, .iconst 1, 1), (111, .iadd, 1), (112, .laload, 1), (113, .aload_n 0, 1), (114, .getfield 17, 3), (117, .bipush 17, 2), (119, .iload_n 3, 1), (120, .imul, 1), (121, .iconst 2, 1), (122, .iadd, 1), (123, .laload, 1), (124, .ladd, 1), (125, .l2i, 1), (126, .ireturn, 1), (127, .aload_n 0, 1), (128, .iload_n 3, 1), (129, .invokevirtual 147, 3), (132, .ireturn, 1), (133, .aload_n 0, 1), (134, .iload_n 3, 1), (135, .invokevirtual 150, 3), (138, .ireturn, 1), (139, .aload_n 0, 1)] = true := by decide +kernel
theorem dX3_call_109 : decode cX3_call 109 = .ok (.imul, 1) := decs_at bnd_x31_25 0 (x := (109, .imul, 1)) rfl
theorem dX3_call_110 : decode cX3_call 110 = .ok (.iconst 1, 1) := decs_at bnd_x31_25 1 (x := (110, .iconst 1, 1)) rfl
theorem dX3_call_111 : decode cX3_call 111 = .ok (.iadd, 1) := decs_at bnd_x31_25 2 (x := (111, .iadd, 1)) rfl
theorem dX3_call_112 : decode cX3_call 112 = .ok (.laload, 1) := decs_at bnd_x31_25 3 (x := (112, .laload, 1)) rfl
theorem dX3_call_113 : decode cX3_call 113 = .ok (.aload_n 0, 1) := decs_at bnd_x31_25 4 (x := (113, .aload_n 0, 1)) rfl
theorem dX3_call_114 : decode cX3_call 114 = .ok (.getfield 17, 3) := decs_at bnd_x31_25 5 (x := (114, .getfield 17, 3)) rfl
theorem dX3_call_117 : decode cX3_call 117 = .ok (.bipush 17, 2) := decs_at bnd_x31_25 6 (x := (117, .bipush 17, 2)) rfl
theorem dX3_call_119 : decode cX3_call 119 = .ok (.iload_n 3, 1) := decs_at bnd_x31_25 7 (x := (119, .iload_n 3, 1)) rfl
theorem dX3_call_120 : decode cX3_call 120 = .ok (.imul, 1) := decs_at bnd_x31_25 8 (x := (120, .imul, 1)) rfl
theorem dX3_call_121 : decode cX3_call 121 = .ok (.iconst 2, 1) := decs_at bnd_x31_25 9 (x := (121, .iconst 2, 1)) rfl
theorem dX3_call_122 : decode cX3_call 122 = .ok (.iadd, 1) := decs_at bnd_x31_25 10 (x := (122, .iadd, 1)) rfl
theorem dX3_call_123 : decode cX3_call 123 = .ok (.laload, 1) := decs_at bnd_x31_25 11 (x := (123, .laload, 1)) rfl
theorem dX3_call_124 : decode cX3_call 124 = .ok (.ladd, 1) := decs_at bnd_x31_25 12 (x := (124, .ladd, 1)) rfl
theorem dX3_call_125 : decode cX3_call 125 = .ok (.l2i, 1) := decs_at bnd_x31_25 13 (x := (125, .l2i, 1)) rfl
theorem dX3_call_126 : decode cX3_call 126 = .ok (.ireturn, 1) := decs_at bnd_x31_25 14 (x := (126, .ireturn, 1)) rfl
theorem dX3_call_127 : decode cX3_call 127 = .ok (.aload_n 0, 1) := decs_at bnd_x31_25 15 (x := (127, .aload_n 0, 1)) rfl
theorem dX3_call_128 : decode cX3_call 128 = .ok (.iload_n 3, 1) := decs_at bnd_x31_25 16 (x := (128, .iload_n 3, 1)) rfl
theorem dX3_call_129 : decode cX3_call 129 = .ok (.invokevirtual 147, 3) := decs_at bnd_x31_25 17 (x := (129, .invokevirtual 147, 3)) rfl
theorem dX3_call_132 : decode cX3_call 132 = .ok (.ireturn, 1) := decs_at bnd_x31_25 18 (x := (132, .ireturn, 1)) rfl
theorem dX3_call_133 : decode cX3_call 133 = .ok (.aload_n 0, 1) := decs_at bnd_x31_25 19 (x := (133, .aload_n 0, 1)) rfl
theorem dX3_call_134 : decode cX3_call 134 = .ok (.iload_n 3, 1) := decs_at bnd_x31_25 20 (x := (134, .iload_n 3, 1)) rfl
theorem dX3_call_135 : decode cX3_call 135 = .ok (.invokevirtual 150, 3) := decs_at bnd_x31_25 21 (x := (135, .invokevirtual 150, 3)) rfl
theorem dX3_call_138 : decode cX3_call 138 = .ok (.ireturn, 1) := decs_at bnd_x31_25 22 (x := (138, .ireturn, 1)) rfl
theorem dX3_call_139 : decode cX3_call 139 = .ok (.aload_n 0, 1) := decs_at bnd_x31_25 23 (x := (139, .aload_n 0, 1)) rfl
theorem bnd_x31_26 : decs cX3_call [(140, .getfield 17, 3), (143, .bipush 17, 2), (145, .iload_n 3, 1), (146, .imul, 1), (147, .bipush 8, 2), (149, .iadd, 1), (150, .laload, 1), (151, .l2i, 1), (152, .istore 4, 2), (154, .iload 4, 2), (156, .iconst (-1), 1), (157, .if_icmp .ne 8, 3), (160, .bipush (-11), 2), (162, .goto 9, 3), (165, .aload_n 0, 1), (166, .iload 4, 2), (168, .invokevirtual 144, 3), (171, .ireturn, 1)] = true := by decide +kernel
theorem dX3_call_140 : decode cX3_call 140 = .ok (.getfield 17, 3) := decs_at bnd_x31_26 0 (x := (140, .getfield 17, 3)) rfl
theorem dX3_call_143 : decode cX3_call 143 = .ok (.bipush 17, 2) := decs_at bnd_x31_26 1 (x := (143, .bipush 17, 2)) rfl
theorem dX3_call_145 : decode cX3_call 145 = .ok (.iload_n 3, 1) := decs_at bnd_x31_26 2 (x := (145, .iload_n 3, 1)) rfl
theorem dX3_call_146 : decode cX3_call 146 = .ok (.imul, 1) := decs_at bnd_x31_26 3 (x := (146, .imul, 1)) rfl
theorem dX3_call_147 : decode cX3_call 147 = .ok (.bipush 8, 2) := decs_at bnd_x31_26 4 (x := (147, .bipush 8, 2)) rfl
theorem dX3_call_149 : decode cX3_call 149 = .ok (.iadd, 1) := decs_at bnd_x31_26 5 (x := (149, .iadd, 1)) rfl
theorem dX3_call_150 : decode cX3_call 150 = .ok (.laload, 1) := decs_at bnd_x31_26 6 (x := (150, .laload, 1)) rfl
theorem dX3_call_151 : decode cX3_call 151 = .ok (.l2i, 1) := decs_at bnd_x31_26 7 (x := (151, .l2i, 1)) rfl
theorem dX3_call_152 : decode cX3_call 152 = .ok (.istore 4, 2) := decs_at bnd_x31_26 8 (x := (152, .istore 4, 2)) rfl
theorem dX3_call_154 : decode cX3_call 154 = .ok (.iload 4, 2) := decs_at bnd_x31_26 9 (x := (154, .iload 4, 2)) rfl
theorem dX3_call_156 : decode cX3_call 156 = .ok (.iconst (-1), 1) := decs_at bnd_x31_26 10 (x := (156, .iconst (-1), 1)) rfl
theorem dX3_call_157 : decode cX3_call 157 = .ok (.if_icmp .ne 8, 3) := decs_at bnd_x31_26 11 (x := (157, .if_icmp .ne 8, 3)) rfl
theorem dX3_call_160 : decode cX3_call 160 = .ok (.bipush (-11), 2) := decs_at bnd_x31_26 12 (x := (160, .bipush (-11), 2)) rfl
theorem dX3_call_162 : decode cX3_call 162 = .ok (.goto 9, 3) := decs_at bnd_x31_26 13 (x := (162, .goto 9, 3)) rfl
theorem dX3_call_165 : decode cX3_call 165 = .ok (.aload_n 0, 1) := decs_at bnd_x31_26 14 (x := (165, .aload_n 0, 1)) rfl
theorem dX3_call_166 : decode cX3_call 166 = .ok (.iload 4, 2) := decs_at bnd_x31_26 15 (x := (166, .iload 4, 2)) rfl
theorem dX3_call_168 : decode cX3_call 168 = .ok (.invokevirtual 144, 3) := decs_at bnd_x31_26 16 (x := (168, .invokevirtual 144, 3)) rfl
theorem dX3_call_171 : decode cX3_call 171 = .ok (.ireturn, 1) := decs_at bnd_x31_26 17 (x := (171, .ireturn, 1)) rfl
set_option maxRecDepth 20000 in
theorem ggX3_raise_X3_isSlot : GoodIn wsX3_raise wsX3_isSlot := goodIn_r _ [7, 8, 9, 10, 6, 11] rfl (by decide +kernel)
set_option maxRecDepth 20000 in
theorem gX3_raise_X3_isSlot : GoodIn wsX3_raise (va_wsS RX3 84 yX3_isSlot wsX3_isSlot) := goodIn_app (goodIn_r _ [4, 5, 6] rfl (by decide +kernel)) ggX3_raise_X3_isSlot
theorem bnd_x31_27 : decs cX3_raise [(0, .iload_n 1, 1), (1, .invokestatic 84, 3), (4, .ifCond .ne 5, 3), (7, .iconst (-1), 1), (8, .ireturn, 1), (9, .aload_n 0, 1), (10, .getfield 7, 3), (13, .iload_n 1, 1), (14, .iaload, 1), (15, .istore_n 2, 1), (16, .iload_n 2, 1), (17, .iconst (-1), 1), (18, .if_icmp .ne 8, 3), (21, .bipush (-11), 2), (23, .goto 31, 3), (26, .aload_n 0, 1), (27, .getfield 13, 3), (30, .iload_n 2, 1), (31, .iaload, 1), (32, .iconst 4, 1), (33, .if_icmp .eq 8, 3), (36, .bipush (-14), 2), (38, .goto 16, 3), (41, .aload_n 0, 1)] = true := by decide +kernel
theorem dX3_raise_0 : decode cX3_raise 0 = .ok (.iload_n 1, 1) := decs_at bnd_x31_27 0 (x := (0, .iload_n 1, 1)) rfl
theorem dX3_raise_1 : decode cX3_raise 1 = .ok (.invokestatic 84, 3) := decs_at bnd_x31_27 1 (x := (1, .invokestatic 84, 3)) rfl
theorem dX3_raise_4 : decode cX3_raise 4 = .ok (.ifCond .ne 5, 3) := decs_at bnd_x31_27 2 (x := (4, .ifCond .ne 5, 3)) rfl
theorem dX3_raise_7 : decode cX3_raise 7 = .ok (.iconst (-1), 1) := decs_at bnd_x31_27 3 (x := (7, .iconst (-1), 1)) rfl
theorem dX3_raise_8 : decode cX3_raise 8 = .ok (.ireturn, 1) := decs_at bnd_x31_27 4 (x := (8, .ireturn, 1)) rfl
theorem dX3_raise_9 : decode cX3_raise 9 = .ok (.aload_n 0, 1) := decs_at bnd_x31_27 5 (x := (9, .aload_n 0, 1)) rfl
theorem dX3_raise_10 : decode cX3_raise 10 = .ok (.getfield 7, 3) := decs_at bnd_x31_27 6 (x := (10, .getfield 7, 3)) rfl
theorem dX3_raise_13 : decode cX3_raise 13 = .ok (.iload_n 1, 1) := decs_at bnd_x31_27 7 (x := (13, .iload_n 1, 1)) rfl
theorem dX3_raise_14 : decode cX3_raise 14 = .ok (.iaload, 1) := decs_at bnd_x31_27 8 (x := (14, .iaload, 1)) rfl
theorem dX3_raise_15 : decode cX3_raise 15 = .ok (.istore_n 2, 1) := decs_at bnd_x31_27 9 (x := (15, .istore_n 2, 1)) rfl
theorem dX3_raise_16 : decode cX3_raise 16 = .ok (.iload_n 2, 1) := decs_at bnd_x31_27 10 (x := (16, .iload_n 2, 1)) rfl
theorem dX3_raise_17 : decode cX3_raise 17 = .ok (.iconst (-1), 1) := decs_at bnd_x31_27 11 (x := (17, .iconst (-1), 1)) rfl
theorem dX3_raise_18 : decode cX3_raise 18 = .ok (.if_icmp .ne 8, 3) := decs_at bnd_x31_27 12 (x := (18, .if_icmp .ne 8, 3)) rfl
theorem dX3_raise_21 : decode cX3_raise 21 = .ok (.bipush (-11), 2) := decs_at bnd_x31_27 13 (x := (21, .bipush (-11), 2)) rfl
theorem dX3_raise_23 : decode cX3_raise 23 = .ok (.goto 31, 3) := decs_at bnd_x31_27 14 (x := (23, .goto 31, 3)) rfl
theorem dX3_raise_26 : decode cX3_raise 26 = .ok (.aload_n 0, 1) := decs_at bnd_x31_27 15 (x := (26, .aload_n 0, 1)) rfl
theorem dX3_raise_27 : decode cX3_raise 27 = .ok (.getfield 13, 3) := decs_at bnd_x31_27 16 (x := (27, .getfield 13, 3)) rfl
theorem dX3_raise_30 : decode cX3_raise 30 = .ok (.iload_n 2, 1) := decs_at bnd_x31_27 17 (x := (30, .iload_n 2, 1)) rfl
theorem dX3_raise_31 : decode cX3_raise 31 = .ok (.iaload, 1) := decs_at bnd_x31_27 18 (x := (31, .iaload, 1)) rfl
theorem dX3_raise_32 : decode cX3_raise 32 = .ok (.iconst 4, 1) := decs_at bnd_x31_27 19 (x := (32, .iconst 4, 1)) rfl
theorem dX3_raise_33 : decode cX3_raise 33 = .ok (.if_icmp .eq 8, 3) := decs_at bnd_x31_27 20 (x := (33, .if_icmp .eq 8, 3)) rfl
theorem dX3_raise_36 : decode cX3_raise 36 = .ok (.bipush (-14), 2) := decs_at bnd_x31_27 21 (x := (36, .bipush (-14), 2)) rfl
theorem dX3_raise_38 : decode cX3_raise 38 = .ok (.goto 16, 3) := decs_at bnd_x31_27 22 (x := (38, .goto 16, 3)) rfl
theorem dX3_raise_41 : decode cX3_raise 41 = .ok (.aload_n 0, 1) := decs_at bnd_x31_27 23 (x := (41, .aload_n 0, 1)) rfl
theorem bnd_x31_28 : decs cX3_raise [(42, .getfield 17, 3), (45, .bipush 17, 2), (47, .iload_n 2, 1), (48, .imul, 1), (49, .bipush 16, 2), (51, .iadd, 1), (52, .laload, 1), (53, .l2i, 1), (54, .ireturn, 1)] = true := by decide +kernel
theorem dX3_raise_42 : decode cX3_raise 42 = .ok (.getfield 17, 3) := decs_at bnd_x31_28 0 (x := (42, .getfield 17, 3)) rfl
theorem dX3_raise_45 : decode cX3_raise 45 = .ok (.bipush 17, 2) := decs_at bnd_x31_28 1 (x := (45, .bipush 17, 2)) rfl
theorem dX3_raise_47 : decode cX3_raise 47 = .ok (.iload_n 2, 1) := decs_at bnd_x31_28 2 (x := (47, .iload_n 2, 1)) rfl
theorem dX3_raise_48 : decode cX3_raise 48 = .ok (.imul, 1) := decs_at bnd_x31_28 3 (x := (48, .imul, 1)) rfl
theorem dX3_raise_49 : decode cX3_raise 49 = .ok (.bipush 16, 2) := decs_at bnd_x31_28 4 (x := (49, .bipush 16, 2)) rfl
theorem dX3_raise_51 : decode cX3_raise 51 = .ok (.iadd, 1) := decs_at bnd_x31_28 5 (x := (51, .iadd, 1)) rfl
theorem dX3_raise_52 : decode cX3_raise 52 = .ok (.laload, 1) := decs_at bnd_x31_28 6 (x := (52, .laload, 1)) rfl
theorem dX3_raise_53 : decode cX3_raise 53 = .ok (.l2i, 1) := decs_at bnd_x31_28 7 (x := (53, .l2i, 1)) rfl
theorem dX3_raise_54 : decode cX3_raise 54 = .ok (.ireturn, 1) := decs_at bnd_x31_28 8 (x := (54, .ireturn, 1)) rfl
set_option maxRecDepth 20000 in
theorem ggX3_passes_X3_isSlot : GoodIn wsX3_passes wsX3_isSlot := goodIn_r _ [6, 7, 8, 9, 5, 10] rfl (by decide +kernel)
set_option maxRecDepth 20000 in
theorem gX3_passes_X3_isSlot : GoodIn wsX3_passes (va_wsS RX3 84 yX3_isSlot wsX3_isSlot) := goodIn_app (goodIn_r _ [3, 4, 5] rfl (by decide +kernel)) ggX3_passes_X3_isSlot
set_option maxRecDepth 20000 in
theorem ggX3_passes_X3_in : GoodIn wsX3_passes wsX3_in := goodIn_r _ [10] rfl (by decide +kernel)
set_option maxRecDepth 20000 in
theorem gX3_passes_X3_in : GoodIn wsX3_passes (va_wsS RX3 70 yX3_in wsX3_in) := goodIn_app (goodIn_r _ [8, 9, 5] rfl (by decide +kernel)) ggX3_passes_X3_in
set_option maxRecDepth 20000 in
theorem ggX3_passes_X3_raise : GoodIn wsX3_passes wsX3_raise := goodIn_r _ [14, 15, 16, 17, 3, 4, 5, 6, 7, 8, 9, 10, 18, 19, 20, 21, 22, 23, 24, 25, 26, 27, 28, 29, 30, 31, 32, 33, 34, 35, 36, 37, 38, 39, 40] rfl (by decide +kernel)
set_option maxRecDepth 20000 in
theorem gX3_passes_X3_raise : GoodIn wsX3_passes (wsV RX3 157 RX3 yX3_raise wsX3_raise) := goodIn_app (goodIn_r _ [11, 12, 13, 5] rfl (by decide +kernel)) ggX3_passes_X3_raise
theorem bnd_x31_29 : decs cX3_passes [(0, .iload_n 1, 1), (1, .invokestatic 84, 3), (4, .ifCond .eq 15, 3), (7, .iload_n 2, 1), (8, .i2l, 1), (9, .lconst 1, 1), (10, .ldc2_w 105, 3), (13, .invokestatic 70, 3), (16, .ifCond .ne 5, 3), (19, .iconst (-1), 1), (20, .ireturn, 1), (21, .aload_n 0, 1), (22, .iload_n 2, 1), (23, .putfield 153, 3), (26, .aload_n 0, 1), (27, .iload_n 1, 1), (28, .invokevirtual 157, 3), (31, .ireturn, 1)] = true := by decide +kernel
theorem dX3_passes_0 : decode cX3_passes 0 = .ok (.iload_n 1, 1) := decs_at bnd_x31_29 0 (x := (0, .iload_n 1, 1)) rfl
theorem dX3_passes_1 : decode cX3_passes 1 = .ok (.invokestatic 84, 3) := decs_at bnd_x31_29 1 (x := (1, .invokestatic 84, 3)) rfl
theorem dX3_passes_4 : decode cX3_passes 4 = .ok (.ifCond .eq 15, 3) := decs_at bnd_x31_29 2 (x := (4, .ifCond .eq 15, 3)) rfl
theorem dX3_passes_7 : decode cX3_passes 7 = .ok (.iload_n 2, 1) := decs_at bnd_x31_29 3 (x := (7, .iload_n 2, 1)) rfl
theorem dX3_passes_8 : decode cX3_passes 8 = .ok (.i2l, 1) := decs_at bnd_x31_29 4 (x := (8, .i2l, 1)) rfl
theorem dX3_passes_9 : decode cX3_passes 9 = .ok (.lconst 1, 1) := decs_at bnd_x31_29 5 (x := (9, .lconst 1, 1)) rfl
theorem dX3_passes_10 : decode cX3_passes 10 = .ok (.ldc2_w 105, 3) := decs_at bnd_x31_29 6 (x := (10, .ldc2_w 105, 3)) rfl
theorem dX3_passes_13 : decode cX3_passes 13 = .ok (.invokestatic 70, 3) := decs_at bnd_x31_29 7 (x := (13, .invokestatic 70, 3)) rfl
theorem dX3_passes_16 : decode cX3_passes 16 = .ok (.ifCond .ne 5, 3) := decs_at bnd_x31_29 8 (x := (16, .ifCond .ne 5, 3)) rfl
theorem dX3_passes_19 : decode cX3_passes 19 = .ok (.iconst (-1), 1) := decs_at bnd_x31_29 9 (x := (19, .iconst (-1), 1)) rfl
theorem dX3_passes_20 : decode cX3_passes 20 = .ok (.ireturn, 1) := decs_at bnd_x31_29 10 (x := (20, .ireturn, 1)) rfl
theorem dX3_passes_21 : decode cX3_passes 21 = .ok (.aload_n 0, 1) := decs_at bnd_x31_29 11 (x := (21, .aload_n 0, 1)) rfl
theorem dX3_passes_22 : decode cX3_passes 22 = .ok (.iload_n 2, 1) := decs_at bnd_x31_29 12 (x := (22, .iload_n 2, 1)) rfl
theorem dX3_passes_23 : decode cX3_passes 23 = .ok (.putfield 153, 3) := decs_at bnd_x31_29 13 (x := (23, .putfield 153, 3)) rfl
theorem dX3_passes_26 : decode cX3_passes 26 = .ok (.aload_n 0, 1) := decs_at bnd_x31_29 14 (x := (26, .aload_n 0, 1)) rfl
theorem dX3_passes_27 : decode cX3_passes 27 = .ok (.iload_n 1, 1) := decs_at bnd_x31_29 15 (x := (27, .iload_n 1, 1)) rfl
theorem dX3_passes_28 : decode cX3_passes 28 = .ok (.invokevirtual 157, 3) := decs_at bnd_x31_29 16 (x := (28, .invokevirtual 157, 3)) rfl
theorem dX3_passes_31 : decode cX3_passes 31 = .ok (.ireturn, 1) := decs_at bnd_x31_29 17 (x := (31, .ireturn, 1)) rfl
theorem bnd_x31_30 : decs cX3_passed [(0, .aload_n 0, 1), (1, .getfield 153, 3), (4, .ireturn, 1)] = true := by decide +kernel
theorem dX3_passed_0 : decode cX3_passed 0 = .ok (.aload_n 0, 1) := decs_at bnd_x31_30 0 (x := (0, .aload_n 0, 1)) rfl
theorem dX3_passed_1 : decode cX3_passed 1 = .ok (.getfield 153, 3) := decs_at bnd_x31_30 1 (x := (1, .getfield 153, 3)) rfl
theorem dX3_passed_4 : decode cX3_passed 4 = .ok (.ireturn, 1) := decs_at bnd_x31_30 2 (x := (4, .ireturn, 1)) rfl
theorem bnd_x31_31 : decs cX3_tell [(0, .aload_n 0, 1), (1, .getfield 160, 3), (4, .sipush 300, 3), (7, .if_icmp .ne 9, 3), (10, .aload_n 0, 1), (11, .iconst 0, 1), (12, .putfield 163, 3), (15, .return_, 1), (16, .aload_n 0, 1), (17, .getfield 47, 3), (20, .aload_n 0, 1), (21, .getfield 160, 3), (24, .iload_n 1, 1), (25, .iastore, 1), (26, .aload_n 0, 1), (27, .getfield 50, 3), (30, .aload_n 0, 1), (31, .getfield 160, 3), (34, .iload_n 2, 1), (35, .iastore, 1), (36, .aload_n 0, 1), (37, .getfield 53, 3), (40, .aload_n 0, 1), (41, .getfield 160, 3)] = true := by decide +kernel
theorem dX3_tell_0 : decode cX3_tell 0 = .ok (.aload_n 0, 1) := decs_at bnd_x31_31 0 (x := (0, .aload_n 0, 1)) rfl
theorem dX3_tell_1 : decode cX3_tell 1 = .ok (.getfield 160, 3) := decs_at bnd_x31_31 1 (x := (1, .getfield 160, 3)) rfl
theorem dX3_tell_4 : decode cX3_tell 4 = .ok (.sipush 300, 3) := decs_at bnd_x31_31 2 (x := (4, .sipush 300, 3)) rfl
theorem dX3_tell_7 : decode cX3_tell 7 = .ok (.if_icmp .ne 9, 3) := decs_at bnd_x31_31 3 (x := (7, .if_icmp .ne 9, 3)) rfl
theorem dX3_tell_10 : decode cX3_tell 10 = .ok (.aload_n 0, 1) := decs_at bnd_x31_31 4 (x := (10, .aload_n 0, 1)) rfl
theorem dX3_tell_11 : decode cX3_tell 11 = .ok (.iconst 0, 1) := decs_at bnd_x31_31 5 (x := (11, .iconst 0, 1)) rfl
theorem dX3_tell_12 : decode cX3_tell 12 = .ok (.putfield 163, 3) := decs_at bnd_x31_31 6 (x := (12, .putfield 163, 3)) rfl
theorem dX3_tell_15 : decode cX3_tell 15 = .ok (.return_, 1) := decs_at bnd_x31_31 7 (x := (15, .return_, 1)) rfl
theorem dX3_tell_16 : decode cX3_tell 16 = .ok (.aload_n 0, 1) := decs_at bnd_x31_31 8 (x := (16, .aload_n 0, 1)) rfl
theorem dX3_tell_17 : decode cX3_tell 17 = .ok (.getfield 47, 3) := decs_at bnd_x31_31 9 (x := (17, .getfield 47, 3)) rfl
theorem dX3_tell_20 : decode cX3_tell 20 = .ok (.aload_n 0, 1) := decs_at bnd_x31_31 10 (x := (20, .aload_n 0, 1)) rfl
theorem dX3_tell_21 : decode cX3_tell 21 = .ok (.getfield 160, 3) := decs_at bnd_x31_31 11 (x := (21, .getfield 160, 3)) rfl
theorem dX3_tell_24 : decode cX3_tell 24 = .ok (.iload_n 1, 1) := decs_at bnd_x31_31 12 (x := (24, .iload_n 1, 1)) rfl
theorem dX3_tell_25 : decode cX3_tell 25 = .ok (.iastore, 1) := decs_at bnd_x31_31 13 (x := (25, .iastore, 1)) rfl
theorem dX3_tell_26 : decode cX3_tell 26 = .ok (.aload_n 0, 1) := decs_at bnd_x31_31 14 (x := (26, .aload_n 0, 1)) rfl
theorem dX3_tell_27 : decode cX3_tell 27 = .ok (.getfield 50, 3) := decs_at bnd_x31_31 15 (x := (27, .getfield 50, 3)) rfl
theorem dX3_tell_30 : decode cX3_tell 30 = .ok (.aload_n 0, 1) := decs_at bnd_x31_31 16 (x := (30, .aload_n 0, 1)) rfl
theorem dX3_tell_31 : decode cX3_tell 31 = .ok (.getfield 160, 3) := decs_at bnd_x31_31 17 (x := (31, .getfield 160, 3)) rfl
theorem dX3_tell_34 : decode cX3_tell 34 = .ok (.iload_n 2, 1) := decs_at bnd_x31_31 18 (x := (34, .iload_n 2, 1)) rfl
theorem dX3_tell_35 : decode cX3_tell 35 = .ok (.iastore, 1) := decs_at bnd_x31_31 19 (x := (35, .iastore, 1)) rfl
theorem dX3_tell_36 : decode cX3_tell 36 = .ok (.aload_n 0, 1) := decs_at bnd_x31_31 20 (x := (36, .aload_n 0, 1)) rfl
theorem dX3_tell_37 : decode cX3_tell 37 = .ok (.getfield 53, 3) := decs_at bnd_x31_31 21 (x := (37, .getfield 53, 3)) rfl
theorem dX3_tell_40 : decode cX3_tell 40 = .ok (.aload_n 0, 1) := decs_at bnd_x31_31 22 (x := (40, .aload_n 0, 1)) rfl
theorem dX3_tell_41 : decode cX3_tell 41 = .ok (.getfield 160, 3) := decs_at bnd_x31_31 23 (x := (41, .getfield 160, 3)) rfl
theorem bnd_x31_32 : decs cX3_tell [(44, .lload_n 3, 1), (45, .lastore, 1), (46, .aload_n 0, 1), (47, .dup, 1), (48, .getfield 160, 3), (51, .iconst 1, 1), (52, .iadd, 1), (53, .putfield 160, 3), (56, .return_, 1)] = true := by decide +kernel
theorem dX3_tell_44 : decode cX3_tell 44 = .ok (.lload_n 3, 1) := decs_at bnd_x31_32 0 (x := (44, .lload_n 3, 1)) rfl
theorem dX3_tell_45 : decode cX3_tell 45 = .ok (.lastore, 1) := decs_at bnd_x31_32 1 (x := (45, .lastore, 1)) rfl
theorem dX3_tell_46 : decode cX3_tell 46 = .ok (.aload_n 0, 1) := decs_at bnd_x31_32 2 (x := (46, .aload_n 0, 1)) rfl
theorem dX3_tell_47 : decode cX3_tell 47 = .ok (.dup, 1) := decs_at bnd_x31_32 3 (x := (47, .dup, 1)) rfl
theorem dX3_tell_48 : decode cX3_tell 48 = .ok (.getfield 160, 3) := decs_at bnd_x31_32 4 (x := (48, .getfield 160, 3)) rfl
theorem dX3_tell_51 : decode cX3_tell 51 = .ok (.iconst 1, 1) := decs_at bnd_x31_32 5 (x := (51, .iconst 1, 1)) rfl
theorem dX3_tell_52 : decode cX3_tell 52 = .ok (.iadd, 1) := decs_at bnd_x31_32 6 (x := (52, .iadd, 1)) rfl
theorem dX3_tell_53 : decode cX3_tell 53 = .ok (.putfield 160, 3) := decs_at bnd_x31_32 7 (x := (53, .putfield 160, 3)) rfl
theorem dX3_tell_56 : decode cX3_tell 56 = .ok (.return_, 1) := decs_at bnd_x31_32 8 (x := (56, .return_, 1)) rfl
theorem bnd_x31_33 : decs cX3_numberOf [(0, .iconst 0, 1), (1, .istore_n 2, 1), (2, .iload_n 2, 1), (3, .aload_n 0, 1), (4, .getfield 167, 3), (7, .if_icmp .ge 21, 3), (10, .aload_n 0, 1), (11, .getfield 44, 3), (14, .iload_n 2, 1), (15, .iaload, 1), (16, .iload_n 1, 1), (17, .if_icmp .ne 5, 3), (20, .iload_n 2, 1), (21, .ireturn, 1), (22, .iinc 2 1, 3), (25, .goto (-23), 3), (28, .bipush (-4), 2), (30, .ireturn, 1)] = true := by decide +kernel
theorem dX3_numberOf_0 : decode cX3_numberOf 0 = .ok (.iconst 0, 1) := decs_at bnd_x31_33 0 (x := (0, .iconst 0, 1)) rfl
theorem dX3_numberOf_1 : decode cX3_numberOf 1 = .ok (.istore_n 2, 1) := decs_at bnd_x31_33 1 (x := (1, .istore_n 2, 1)) rfl
theorem dX3_numberOf_2 : decode cX3_numberOf 2 = .ok (.iload_n 2, 1) := decs_at bnd_x31_33 2 (x := (2, .iload_n 2, 1)) rfl
theorem dX3_numberOf_3 : decode cX3_numberOf 3 = .ok (.aload_n 0, 1) := decs_at bnd_x31_33 3 (x := (3, .aload_n 0, 1)) rfl
theorem dX3_numberOf_4 : decode cX3_numberOf 4 = .ok (.getfield 167, 3) := decs_at bnd_x31_33 4 (x := (4, .getfield 167, 3)) rfl
theorem dX3_numberOf_7 : decode cX3_numberOf 7 = .ok (.if_icmp .ge 21, 3) := decs_at bnd_x31_33 5 (x := (7, .if_icmp .ge 21, 3)) rfl
theorem dX3_numberOf_10 : decode cX3_numberOf 10 = .ok (.aload_n 0, 1) := decs_at bnd_x31_33 6 (x := (10, .aload_n 0, 1)) rfl
theorem dX3_numberOf_11 : decode cX3_numberOf 11 = .ok (.getfield 44, 3) := decs_at bnd_x31_33 7 (x := (11, .getfield 44, 3)) rfl
theorem dX3_numberOf_14 : decode cX3_numberOf 14 = .ok (.iload_n 2, 1) := decs_at bnd_x31_33 8 (x := (14, .iload_n 2, 1)) rfl
theorem dX3_numberOf_15 : decode cX3_numberOf 15 = .ok (.iaload, 1) := decs_at bnd_x31_33 9 (x := (15, .iaload, 1)) rfl
theorem dX3_numberOf_16 : decode cX3_numberOf 16 = .ok (.iload_n 1, 1) := decs_at bnd_x31_33 10 (x := (16, .iload_n 1, 1)) rfl
theorem dX3_numberOf_17 : decode cX3_numberOf 17 = .ok (.if_icmp .ne 5, 3) := decs_at bnd_x31_33 11 (x := (17, .if_icmp .ne 5, 3)) rfl
theorem dX3_numberOf_20 : decode cX3_numberOf 20 = .ok (.iload_n 2, 1) := decs_at bnd_x31_33 12 (x := (20, .iload_n 2, 1)) rfl
theorem dX3_numberOf_21 : decode cX3_numberOf 21 = .ok (.ireturn, 1) := decs_at bnd_x31_33 13 (x := (21, .ireturn, 1)) rfl
theorem dX3_numberOf_22 : decode cX3_numberOf 22 = .ok (.iinc 2 1, 3) := decs_at bnd_x31_33 14 (x := (22, .iinc 2 1, 3)) rfl
theorem dX3_numberOf_25 : decode cX3_numberOf 25 = .ok (.goto (-23), 3) := decs_at bnd_x31_33 15 (x := (25, .goto (-23), 3)) rfl
theorem dX3_numberOf_28 : decode cX3_numberOf 28 = .ok (.bipush (-4), 2) := decs_at bnd_x31_33 16 (x := (28, .bipush (-4), 2)) rfl
theorem dX3_numberOf_30 : decode cX3_numberOf 30 = .ok (.ireturn, 1) := decs_at bnd_x31_33 17 (x := (30, .ireturn, 1)) rfl
set_option maxRecDepth 20000 in
theorem ggX3_find_X3_isLink : GoodIn wsX3_find wsX3_isLink := goodIn_r _ [10] rfl (by decide +kernel)
set_option maxRecDepth 20000 in
theorem gX3_find_X3_isLink : GoodIn wsX3_find (va_wsS RX3 74 yX3_isLink wsX3_isLink) := goodIn_app (goodIn_r _ [7, 8, 9] rfl (by decide +kernel)) ggX3_find_X3_isLink
set_option maxRecDepth 20000 in
theorem ggX3_find_X3_has : GoodIn wsX3_find wsX3_has := goodIn_r _ [13] rfl (by decide +kernel)
set_option maxRecDepth 20000 in
theorem gX3_find_X3_has : GoodIn wsX3_find (va_wsS RX3 78 yX3_has wsX3_has) := goodIn_app (goodIn_r _ [11, 12, 9] rfl (by decide +kernel)) ggX3_find_X3_has
set_option maxRecDepth 20000 in
theorem ggX3_find_X3_numberOf : GoodIn wsX3_find wsX3_numberOf := goodIn_r _ [17, 1, 2, 32, 33, 34, 35, 36, 37, 38, 39, 40, 41, 42, 43, 44, 45, 46, 47, 48, 49, 50, 51, 52, 53, 54] rfl (by decide +kernel)
set_option maxRecDepth 20000 in
theorem gX3_find_X3_numberOf : GoodIn wsX3_find (wsV RX3 170 RX3 yX3_numberOf wsX3_numberOf) := goodIn_app (goodIn_r _ [14, 15, 16, 9] rfl (by decide +kernel)) ggX3_find_X3_numberOf
set_option maxRecDepth 20000 in
theorem ggX3_find_X3_tellObject : GoodIn wsX3_find wsX3_tellObject := goodIn_r _ [21, 5, 6, 22, 23, 24, 25, 26, 27, 9, 28, 3, 4, 29, 30, 31, 11, 12, 13, 7, 8, 10, 14, 15, 16, 17, 1, 2, 32, 33, 34, 35, 36, 37, 38, 39, 40, 41, 42, 43, 44, 45, 46, 47, 48, 49, 50, 51, 52, 53, 54] rfl (by decide +kernel)
set_option maxRecDepth 20000 in
theorem gX3_find_X3_tellObject : GoodIn wsX3_find (wsV RX3 173 RX3 yX3_tellObject wsX3_tellObject) := goodIn_app (goodIn_r _ [18, 19, 20, 9] rfl (by decide +kernel)) ggX3_find_X3_tellObject
theorem bnd_x31_34 : decs cX3_find [(0, .aload_n 0, 1), (1, .iconst 1, 1), (2, .putfield 167, 3), (5, .aload_n 0, 1), (6, .getfield 44, 3), (9, .iconst 0, 1), (10, .iload_n 1, 1), (11, .iastore, 1), (12, .aload_n 0, 1), (13, .iconst 0, 1), (14, .putfield 160, 3), (17, .aload_n 0, 1), (18, .iconst 1, 1), (19, .putfield 163, 3), (22, .iconst 0, 1), (23, .istore_n 2, 1), (24, .iload_n 2, 1), (25, .aload_n 0, 1), (26, .getfield 167, 3), (29, .if_icmp .ge 171, 3), (32, .aload_n 0, 1), (33, .getfield 163, 3), (36, .ifCond .eq 164, 3), (39, .aload_n 0, 1)] = true := by decide +kernel
theorem dX3_find_0 : decode cX3_find 0 = .ok (.aload_n 0, 1) := decs_at bnd_x31_34 0 (x := (0, .aload_n 0, 1)) rfl
theorem dX3_find_1 : decode cX3_find 1 = .ok (.iconst 1, 1) := decs_at bnd_x31_34 1 (x := (1, .iconst 1, 1)) rfl
theorem dX3_find_2 : decode cX3_find 2 = .ok (.putfield 167, 3) := decs_at bnd_x31_34 2 (x := (2, .putfield 167, 3)) rfl
theorem dX3_find_5 : decode cX3_find 5 = .ok (.aload_n 0, 1) := decs_at bnd_x31_34 3 (x := (5, .aload_n 0, 1)) rfl
theorem dX3_find_6 : decode cX3_find 6 = .ok (.getfield 44, 3) := decs_at bnd_x31_34 4 (x := (6, .getfield 44, 3)) rfl
theorem dX3_find_9 : decode cX3_find 9 = .ok (.iconst 0, 1) := decs_at bnd_x31_34 5 (x := (9, .iconst 0, 1)) rfl
theorem dX3_find_10 : decode cX3_find 10 = .ok (.iload_n 1, 1) := decs_at bnd_x31_34 6 (x := (10, .iload_n 1, 1)) rfl
theorem dX3_find_11 : decode cX3_find 11 = .ok (.iastore, 1) := decs_at bnd_x31_34 7 (x := (11, .iastore, 1)) rfl
theorem dX3_find_12 : decode cX3_find 12 = .ok (.aload_n 0, 1) := decs_at bnd_x31_34 8 (x := (12, .aload_n 0, 1)) rfl
theorem dX3_find_13 : decode cX3_find 13 = .ok (.iconst 0, 1) := decs_at bnd_x31_34 9 (x := (13, .iconst 0, 1)) rfl
theorem dX3_find_14 : decode cX3_find 14 = .ok (.putfield 160, 3) := decs_at bnd_x31_34 10 (x := (14, .putfield 160, 3)) rfl
theorem dX3_find_17 : decode cX3_find 17 = .ok (.aload_n 0, 1) := decs_at bnd_x31_34 11 (x := (17, .aload_n 0, 1)) rfl
theorem dX3_find_18 : decode cX3_find 18 = .ok (.iconst 1, 1) := decs_at bnd_x31_34 12 (x := (18, .iconst 1, 1)) rfl
theorem dX3_find_19 : decode cX3_find 19 = .ok (.putfield 163, 3) := decs_at bnd_x31_34 13 (x := (19, .putfield 163, 3)) rfl
theorem dX3_find_22 : decode cX3_find 22 = .ok (.iconst 0, 1) := decs_at bnd_x31_34 14 (x := (22, .iconst 0, 1)) rfl
theorem dX3_find_23 : decode cX3_find 23 = .ok (.istore_n 2, 1) := decs_at bnd_x31_34 15 (x := (23, .istore_n 2, 1)) rfl
theorem dX3_find_24 : decode cX3_find 24 = .ok (.iload_n 2, 1) := decs_at bnd_x31_34 16 (x := (24, .iload_n 2, 1)) rfl
theorem dX3_find_25 : decode cX3_find 25 = .ok (.aload_n 0, 1) := decs_at bnd_x31_34 17 (x := (25, .aload_n 0, 1)) rfl
theorem dX3_find_26 : decode cX3_find 26 = .ok (.getfield 167, 3) := decs_at bnd_x31_34 18 (x := (26, .getfield 167, 3)) rfl
theorem dX3_find_29 : decode cX3_find 29 = .ok (.if_icmp .ge 171, 3) := decs_at bnd_x31_34 19 (x := (29, .if_icmp .ge 171, 3)) rfl
theorem dX3_find_32 : decode cX3_find 32 = .ok (.aload_n 0, 1) := decs_at bnd_x31_34 20 (x := (32, .aload_n 0, 1)) rfl
theorem dX3_find_33 : decode cX3_find 33 = .ok (.getfield 163, 3) := decs_at bnd_x31_34 21 (x := (33, .getfield 163, 3)) rfl
theorem dX3_find_36 : decode cX3_find 36 = .ok (.ifCond .eq 164, 3) := decs_at bnd_x31_34 22 (x := (36, .ifCond .eq 164, 3)) rfl
theorem dX3_find_39 : decode cX3_find 39 = .ok (.aload_n 0, 1) := decs_at bnd_x31_34 23 (x := (39, .aload_n 0, 1)) rfl
theorem bnd_x31_35 : decs cX3_find [(40, .getfield 44, 3), (43, .iload_n 2, 1), (44, .iaload, 1), (45, .istore_n 3, 1), (46, .bipush 8, 2), (48, .istore 4, 2), (50, .iload 4, 2), (52, .bipush 16, 2), (54, .if_icmp .ge 140, 3), (57, .iload 4, 2), (59, .invokestatic 74, 3), (62, .ifCond .eq 33, 3), (65, .aload_n 0, 1), (66, .getfield 13, 3), (69, .iload_n 3, 1), (70, .iaload, 1), (71, .iload 4, 2), (73, .invokestatic 78, 3), (76, .ifCond .eq 19, 3), (79, .aload_n 0, 1), (80, .getfield 17, 3), (83, .bipush 17, 2), (85, .iload_n 3, 1), (86, .imul, 1)] = true := by decide +kernel
theorem dX3_find_40 : decode cX3_find 40 = .ok (.getfield 44, 3) := decs_at bnd_x31_35 0 (x := (40, .getfield 44, 3)) rfl
theorem dX3_find_43 : decode cX3_find 43 = .ok (.iload_n 2, 1) := decs_at bnd_x31_35 1 (x := (43, .iload_n 2, 1)) rfl
theorem dX3_find_44 : decode cX3_find 44 = .ok (.iaload, 1) := decs_at bnd_x31_35 2 (x := (44, .iaload, 1)) rfl
theorem dX3_find_45 : decode cX3_find 45 = .ok (.istore_n 3, 1) := decs_at bnd_x31_35 3 (x := (45, .istore_n 3, 1)) rfl
theorem dX3_find_46 : decode cX3_find 46 = .ok (.bipush 8, 2) := decs_at bnd_x31_35 4 (x := (46, .bipush 8, 2)) rfl
theorem dX3_find_48 : decode cX3_find 48 = .ok (.istore 4, 2) := decs_at bnd_x31_35 5 (x := (48, .istore 4, 2)) rfl
theorem dX3_find_50 : decode cX3_find 50 = .ok (.iload 4, 2) := decs_at bnd_x31_35 6 (x := (50, .iload 4, 2)) rfl
theorem dX3_find_52 : decode cX3_find 52 = .ok (.bipush 16, 2) := decs_at bnd_x31_35 7 (x := (52, .bipush 16, 2)) rfl
theorem dX3_find_54 : decode cX3_find 54 = .ok (.if_icmp .ge 140, 3) := decs_at bnd_x31_35 8 (x := (54, .if_icmp .ge 140, 3)) rfl
theorem dX3_find_57 : decode cX3_find 57 = .ok (.iload 4, 2) := decs_at bnd_x31_35 9 (x := (57, .iload 4, 2)) rfl
theorem dX3_find_59 : decode cX3_find 59 = .ok (.invokestatic 74, 3) := decs_at bnd_x31_35 10 (x := (59, .invokestatic 74, 3)) rfl
theorem dX3_find_62 : decode cX3_find 62 = .ok (.ifCond .eq 33, 3) := decs_at bnd_x31_35 11 (x := (62, .ifCond .eq 33, 3)) rfl
theorem dX3_find_65 : decode cX3_find 65 = .ok (.aload_n 0, 1) := decs_at bnd_x31_35 12 (x := (65, .aload_n 0, 1)) rfl
theorem dX3_find_66 : decode cX3_find 66 = .ok (.getfield 13, 3) := decs_at bnd_x31_35 13 (x := (66, .getfield 13, 3)) rfl
theorem dX3_find_69 : decode cX3_find 69 = .ok (.iload_n 3, 1) := decs_at bnd_x31_35 14 (x := (69, .iload_n 3, 1)) rfl
theorem dX3_find_70 : decode cX3_find 70 = .ok (.iaload, 1) := decs_at bnd_x31_35 15 (x := (70, .iaload, 1)) rfl
theorem dX3_find_71 : decode cX3_find 71 = .ok (.iload 4, 2) := decs_at bnd_x31_35 16 (x := (71, .iload 4, 2)) rfl
theorem dX3_find_73 : decode cX3_find 73 = .ok (.invokestatic 78, 3) := decs_at bnd_x31_35 17 (x := (73, .invokestatic 78, 3)) rfl
theorem dX3_find_76 : decode cX3_find 76 = .ok (.ifCond .eq 19, 3) := decs_at bnd_x31_35 18 (x := (76, .ifCond .eq 19, 3)) rfl
theorem dX3_find_79 : decode cX3_find 79 = .ok (.aload_n 0, 1) := decs_at bnd_x31_35 19 (x := (79, .aload_n 0, 1)) rfl
theorem dX3_find_80 : decode cX3_find 80 = .ok (.getfield 17, 3) := decs_at bnd_x31_35 20 (x := (80, .getfield 17, 3)) rfl
theorem dX3_find_83 : decode cX3_find 83 = .ok (.bipush 17, 2) := decs_at bnd_x31_35 21 (x := (83, .bipush 17, 2)) rfl
theorem dX3_find_85 : decode cX3_find 85 = .ok (.iload_n 3, 1) := decs_at bnd_x31_35 22 (x := (85, .iload_n 3, 1)) rfl
theorem dX3_find_86 : decode cX3_find 86 = .ok (.imul, 1) := decs_at bnd_x31_35 23 (x := (86, .imul, 1)) rfl
theorem bnd_x31_36 : decs cX3_find [(87, .iload 4, 2), (89, .iadd, 1), (90, .laload, 1), (91, .l2i, 1), (92, .goto 4, 3), (95, .iconst (-1), 1), (96, .istore 5, 2), (98, .iload 5, 2), (100, .iconst (-1), 1), (101, .if_icmp .eq 87, 3), (104, .aload_n 0, 1), (105, .iload 5, 2), (107, .invokevirtual 170, 3), (110, .bipush (-4), 2), (112, .if_icmp .ne 76, 3), (115, .aload_n 0, 1), (116, .aload_n 0, 1), (117, .getfield 163, 3), (120, .ifCond .eq 16, 3), (123, .aload_n 0, 1), (124, .getfield 167, 3), (127, .bipush 24, 2), (129, .if_icmp .ge 7, 3), (132, .iconst 1, 1)] = true := by decide +kernel
theorem dX3_find_87 : decode cX3_find 87 = .ok (.iload 4, 2) := decs_at bnd_x31_36 0 (x := (87, .iload 4, 2)) rfl
theorem dX3_find_89 : decode cX3_find 89 = .ok (.iadd, 1) := decs_at bnd_x31_36 1 (x := (89, .iadd, 1)) rfl
theorem dX3_find_90 : decode cX3_find 90 = .ok (.laload, 1) := decs_at bnd_x31_36 2 (x := (90, .laload, 1)) rfl
theorem dX3_find_91 : decode cX3_find 91 = .ok (.l2i, 1) := decs_at bnd_x31_36 3 (x := (91, .l2i, 1)) rfl
theorem dX3_find_92 : decode cX3_find 92 = .ok (.goto 4, 3) := decs_at bnd_x31_36 4 (x := (92, .goto 4, 3)) rfl
theorem dX3_find_95 : decode cX3_find 95 = .ok (.iconst (-1), 1) := decs_at bnd_x31_36 5 (x := (95, .iconst (-1), 1)) rfl
theorem dX3_find_96 : decode cX3_find 96 = .ok (.istore 5, 2) := decs_at bnd_x31_36 6 (x := (96, .istore 5, 2)) rfl
theorem dX3_find_98 : decode cX3_find 98 = .ok (.iload 5, 2) := decs_at bnd_x31_36 7 (x := (98, .iload 5, 2)) rfl
theorem dX3_find_100 : decode cX3_find 100 = .ok (.iconst (-1), 1) := decs_at bnd_x31_36 8 (x := (100, .iconst (-1), 1)) rfl
theorem dX3_find_101 : decode cX3_find 101 = .ok (.if_icmp .eq 87, 3) := decs_at bnd_x31_36 9 (x := (101, .if_icmp .eq 87, 3)) rfl
theorem dX3_find_104 : decode cX3_find 104 = .ok (.aload_n 0, 1) := decs_at bnd_x31_36 10 (x := (104, .aload_n 0, 1)) rfl
theorem dX3_find_105 : decode cX3_find 105 = .ok (.iload 5, 2) := decs_at bnd_x31_36 11 (x := (105, .iload 5, 2)) rfl
theorem dX3_find_107 : decode cX3_find 107 = .ok (.invokevirtual 170, 3) := decs_at bnd_x31_36 12 (x := (107, .invokevirtual 170, 3)) rfl
theorem dX3_find_110 : decode cX3_find 110 = .ok (.bipush (-4), 2) := decs_at bnd_x31_36 13 (x := (110, .bipush (-4), 2)) rfl
theorem dX3_find_112 : decode cX3_find 112 = .ok (.if_icmp .ne 76, 3) := decs_at bnd_x31_36 14 (x := (112, .if_icmp .ne 76, 3)) rfl
theorem dX3_find_115 : decode cX3_find 115 = .ok (.aload_n 0, 1) := decs_at bnd_x31_36 15 (x := (115, .aload_n 0, 1)) rfl
theorem dX3_find_116 : decode cX3_find 116 = .ok (.aload_n 0, 1) := decs_at bnd_x31_36 16 (x := (116, .aload_n 0, 1)) rfl
theorem dX3_find_117 : decode cX3_find 117 = .ok (.getfield 163, 3) := decs_at bnd_x31_36 17 (x := (117, .getfield 163, 3)) rfl
theorem dX3_find_120 : decode cX3_find 120 = .ok (.ifCond .eq 16, 3) := decs_at bnd_x31_36 18 (x := (120, .ifCond .eq 16, 3)) rfl
theorem dX3_find_123 : decode cX3_find 123 = .ok (.aload_n 0, 1) := decs_at bnd_x31_36 19 (x := (123, .aload_n 0, 1)) rfl
theorem dX3_find_124 : decode cX3_find 124 = .ok (.getfield 167, 3) := decs_at bnd_x31_36 20 (x := (124, .getfield 167, 3)) rfl
theorem dX3_find_127 : decode cX3_find 127 = .ok (.bipush 24, 2) := decs_at bnd_x31_36 21 (x := (127, .bipush 24, 2)) rfl
theorem dX3_find_129 : decode cX3_find 129 = .ok (.if_icmp .ge 7, 3) := decs_at bnd_x31_36 22 (x := (129, .if_icmp .ge 7, 3)) rfl
theorem dX3_find_132 : decode cX3_find 132 = .ok (.iconst 1, 1) := decs_at bnd_x31_36 23 (x := (132, .iconst 1, 1)) rfl
theorem bnd_x31_37 : decs cX3_find [(133, .goto 4, 3), (136, .iconst 0, 1), (137, .putfield 163, 3), (140, .aload_n 0, 1), (141, .getfield 44, 3), (144, .aload_n 0, 1), (145, .getfield 167, 3), (148, .bipush 24, 2), (150, .if_icmp .ge 10, 3), (153, .aload_n 0, 1), (154, .getfield 167, 3), (157, .goto 5, 3), (160, .bipush 24, 2), (162, .iload 5, 2), (164, .iastore, 1), (165, .aload_n 0, 1), (166, .dup, 1), (167, .getfield 167, 3), (170, .aload_n 0, 1), (171, .getfield 167, 3), (174, .bipush 24, 2), (176, .if_icmp .ge 7, 3), (179, .iconst 1, 1), (180, .goto 4, 3)] = true := by decide +kernel
theorem dX3_find_133 : decode cX3_find 133 = .ok (.goto 4, 3) := decs_at bnd_x31_37 0 (x := (133, .goto 4, 3)) rfl
theorem dX3_find_136 : decode cX3_find 136 = .ok (.iconst 0, 1) := decs_at bnd_x31_37 1 (x := (136, .iconst 0, 1)) rfl
theorem dX3_find_137 : decode cX3_find 137 = .ok (.putfield 163, 3) := decs_at bnd_x31_37 2 (x := (137, .putfield 163, 3)) rfl
theorem dX3_find_140 : decode cX3_find 140 = .ok (.aload_n 0, 1) := decs_at bnd_x31_37 3 (x := (140, .aload_n 0, 1)) rfl
theorem dX3_find_141 : decode cX3_find 141 = .ok (.getfield 44, 3) := decs_at bnd_x31_37 4 (x := (141, .getfield 44, 3)) rfl
theorem dX3_find_144 : decode cX3_find 144 = .ok (.aload_n 0, 1) := decs_at bnd_x31_37 5 (x := (144, .aload_n 0, 1)) rfl
theorem dX3_find_145 : decode cX3_find 145 = .ok (.getfield 167, 3) := decs_at bnd_x31_37 6 (x := (145, .getfield 167, 3)) rfl
theorem dX3_find_148 : decode cX3_find 148 = .ok (.bipush 24, 2) := decs_at bnd_x31_37 7 (x := (148, .bipush 24, 2)) rfl
theorem dX3_find_150 : decode cX3_find 150 = .ok (.if_icmp .ge 10, 3) := decs_at bnd_x31_37 8 (x := (150, .if_icmp .ge 10, 3)) rfl
theorem dX3_find_153 : decode cX3_find 153 = .ok (.aload_n 0, 1) := decs_at bnd_x31_37 9 (x := (153, .aload_n 0, 1)) rfl
theorem dX3_find_154 : decode cX3_find 154 = .ok (.getfield 167, 3) := decs_at bnd_x31_37 10 (x := (154, .getfield 167, 3)) rfl
theorem dX3_find_157 : decode cX3_find 157 = .ok (.goto 5, 3) := decs_at bnd_x31_37 11 (x := (157, .goto 5, 3)) rfl
theorem dX3_find_160 : decode cX3_find 160 = .ok (.bipush 24, 2) := decs_at bnd_x31_37 12 (x := (160, .bipush 24, 2)) rfl
theorem dX3_find_162 : decode cX3_find 162 = .ok (.iload 5, 2) := decs_at bnd_x31_37 13 (x := (162, .iload 5, 2)) rfl
theorem dX3_find_164 : decode cX3_find 164 = .ok (.iastore, 1) := decs_at bnd_x31_37 14 (x := (164, .iastore, 1)) rfl
theorem dX3_find_165 : decode cX3_find 165 = .ok (.aload_n 0, 1) := decs_at bnd_x31_37 15 (x := (165, .aload_n 0, 1)) rfl
theorem dX3_find_166 : decode cX3_find 166 = .ok (.dup, 1) := decs_at bnd_x31_37 16 (x := (166, .dup, 1)) rfl
theorem dX3_find_167 : decode cX3_find 167 = .ok (.getfield 167, 3) := decs_at bnd_x31_37 17 (x := (167, .getfield 167, 3)) rfl
theorem dX3_find_170 : decode cX3_find 170 = .ok (.aload_n 0, 1) := decs_at bnd_x31_37 18 (x := (170, .aload_n 0, 1)) rfl
theorem dX3_find_171 : decode cX3_find 171 = .ok (.getfield 167, 3) := decs_at bnd_x31_37 19 (x := (171, .getfield 167, 3)) rfl
theorem dX3_find_174 : decode cX3_find 174 = .ok (.bipush 24, 2) := decs_at bnd_x31_37 20 (x := (174, .bipush 24, 2)) rfl
theorem dX3_find_176 : decode cX3_find 176 = .ok (.if_icmp .ge 7, 3) := decs_at bnd_x31_37 21 (x := (176, .if_icmp .ge 7, 3)) rfl
theorem dX3_find_179 : decode cX3_find 179 = .ok (.iconst 1, 1) := decs_at bnd_x31_37 22 (x := (179, .iconst 1, 1)) rfl
theorem dX3_find_180 : decode cX3_find 180 = .ok (.goto 4, 3) := decs_at bnd_x31_37 23 (x := (180, .goto 4, 3)) rfl
theorem bnd_x31_38 : decs cX3_find [(183, .iconst 0, 1), (184, .iadd, 1), (185, .putfield 167, 3), (188, .iinc 4 1, 3), (191, .goto (-141), 3), (194, .iinc 2 1, 3), (197, .goto (-173), 3), (200, .iconst 0, 1), (201, .istore_n 2, 1), (202, .iload_n 2, 1), (203, .aload_n 0, 1), (204, .getfield 167, 3), (207, .if_icmp .ge 27, 3), (210, .aload_n 0, 1), (211, .getfield 163, 3), (214, .ifCond .eq 20, 3), (217, .aload_n 0, 1), (218, .iload_n 2, 1), (219, .aload_n 0, 1), (220, .getfield 44, 3), (223, .iload_n 2, 1), (224, .iaload, 1), (225, .invokevirtual 173, 3), (228, .iinc 2 1, 3)] = true := by decide +kernel
theorem dX3_find_183 : decode cX3_find 183 = .ok (.iconst 0, 1) := decs_at bnd_x31_38 0 (x := (183, .iconst 0, 1)) rfl
theorem dX3_find_184 : decode cX3_find 184 = .ok (.iadd, 1) := decs_at bnd_x31_38 1 (x := (184, .iadd, 1)) rfl
theorem dX3_find_185 : decode cX3_find 185 = .ok (.putfield 167, 3) := decs_at bnd_x31_38 2 (x := (185, .putfield 167, 3)) rfl
theorem dX3_find_188 : decode cX3_find 188 = .ok (.iinc 4 1, 3) := decs_at bnd_x31_38 3 (x := (188, .iinc 4 1, 3)) rfl
theorem dX3_find_191 : decode cX3_find 191 = .ok (.goto (-141), 3) := decs_at bnd_x31_38 4 (x := (191, .goto (-141), 3)) rfl
theorem dX3_find_194 : decode cX3_find 194 = .ok (.iinc 2 1, 3) := decs_at bnd_x31_38 5 (x := (194, .iinc 2 1, 3)) rfl
theorem dX3_find_197 : decode cX3_find 197 = .ok (.goto (-173), 3) := decs_at bnd_x31_38 6 (x := (197, .goto (-173), 3)) rfl
theorem dX3_find_200 : decode cX3_find 200 = .ok (.iconst 0, 1) := decs_at bnd_x31_38 7 (x := (200, .iconst 0, 1)) rfl
theorem dX3_find_201 : decode cX3_find 201 = .ok (.istore_n 2, 1) := decs_at bnd_x31_38 8 (x := (201, .istore_n 2, 1)) rfl
theorem dX3_find_202 : decode cX3_find 202 = .ok (.iload_n 2, 1) := decs_at bnd_x31_38 9 (x := (202, .iload_n 2, 1)) rfl
theorem dX3_find_203 : decode cX3_find 203 = .ok (.aload_n 0, 1) := decs_at bnd_x31_38 10 (x := (203, .aload_n 0, 1)) rfl
theorem dX3_find_204 : decode cX3_find 204 = .ok (.getfield 167, 3) := decs_at bnd_x31_38 11 (x := (204, .getfield 167, 3)) rfl
theorem dX3_find_207 : decode cX3_find 207 = .ok (.if_icmp .ge 27, 3) := decs_at bnd_x31_38 12 (x := (207, .if_icmp .ge 27, 3)) rfl
theorem dX3_find_210 : decode cX3_find 210 = .ok (.aload_n 0, 1) := decs_at bnd_x31_38 13 (x := (210, .aload_n 0, 1)) rfl
theorem dX3_find_211 : decode cX3_find 211 = .ok (.getfield 163, 3) := decs_at bnd_x31_38 14 (x := (211, .getfield 163, 3)) rfl
theorem dX3_find_214 : decode cX3_find 214 = .ok (.ifCond .eq 20, 3) := decs_at bnd_x31_38 15 (x := (214, .ifCond .eq 20, 3)) rfl
theorem dX3_find_217 : decode cX3_find 217 = .ok (.aload_n 0, 1) := decs_at bnd_x31_38 16 (x := (217, .aload_n 0, 1)) rfl
theorem dX3_find_218 : decode cX3_find 218 = .ok (.iload_n 2, 1) := decs_at bnd_x31_38 17 (x := (218, .iload_n 2, 1)) rfl
theorem dX3_find_219 : decode cX3_find 219 = .ok (.aload_n 0, 1) := decs_at bnd_x31_38 18 (x := (219, .aload_n 0, 1)) rfl
theorem dX3_find_220 : decode cX3_find 220 = .ok (.getfield 44, 3) := decs_at bnd_x31_38 19 (x := (220, .getfield 44, 3)) rfl
theorem dX3_find_223 : decode cX3_find 223 = .ok (.iload_n 2, 1) := decs_at bnd_x31_38 20 (x := (223, .iload_n 2, 1)) rfl
theorem dX3_find_224 : decode cX3_find 224 = .ok (.iaload, 1) := decs_at bnd_x31_38 21 (x := (224, .iaload, 1)) rfl
theorem dX3_find_225 : decode cX3_find 225 = .ok (.invokevirtual 173, 3) := decs_at bnd_x31_38 22 (x := (225, .invokevirtual 173, 3)) rfl
theorem dX3_find_228 : decode cX3_find 228 = .ok (.iinc 2 1, 3) := decs_at bnd_x31_38 23 (x := (228, .iinc 2 1, 3)) rfl
theorem bnd_x31_39 : decs cX3_find [(231, .goto (-29), 3), (234, .aload_n 0, 1), (235, .getfield 163, 3), (238, .ireturn, 1)] = true := by decide +kernel
theorem dX3_find_231 : decode cX3_find 231 = .ok (.goto (-29), 3) := decs_at bnd_x31_39 0 (x := (231, .goto (-29), 3)) rfl
theorem dX3_find_234 : decode cX3_find 234 = .ok (.aload_n 0, 1) := decs_at bnd_x31_39 1 (x := (234, .aload_n 0, 1)) rfl
theorem dX3_find_235 : decode cX3_find 235 = .ok (.getfield 163, 3) := decs_at bnd_x31_39 2 (x := (235, .getfield 163, 3)) rfl
theorem dX3_find_238 : decode cX3_find 238 = .ok (.ireturn, 1) := decs_at bnd_x31_39 3 (x := (238, .ireturn, 1)) rfl
set_option maxRecDepth 20000 in
theorem ggX3_tellObject_X3_tell : GoodIn wsX3_tellObject wsX3_tell := goodIn_r _ [10, 11, 12, 13, 14, 15, 28, 29, 30, 31, 32, 33, 34, 35, 36, 37, 38, 39, 40, 41, 42, 43, 44, 45, 46, 47, 48, 49, 50] rfl (by decide +kernel)
set_option maxRecDepth 20000 in
theorem gX3_tellObject_X3_tell : GoodIn wsX3_tellObject (wsV RX3 177 RX3 yX3_tell wsX3_tell) := goodIn_app (goodIn_r _ [6, 7, 8, 9] rfl (by decide +kernel)) ggX3_tellObject_X3_tell
set_option maxRecDepth 20000 in
theorem ggX3_tellObject_X3_has : GoodIn wsX3_tellObject wsX3_has := goodIn_r _ [18] rfl (by decide +kernel)
set_option maxRecDepth 20000 in
theorem gX3_tellObject_X3_has : GoodIn wsX3_tellObject (va_wsS RX3 78 yX3_has wsX3_has) := goodIn_app (goodIn_r _ [16, 17, 9] rfl (by decide +kernel)) ggX3_tellObject_X3_has
set_option maxRecDepth 20000 in
theorem ggX3_tellObject_X3_isLink : GoodIn wsX3_tellObject wsX3_isLink := goodIn_r _ [21] rfl (by decide +kernel)
set_option maxRecDepth 20000 in
theorem gX3_tellObject_X3_isLink : GoodIn wsX3_tellObject (va_wsS RX3 74 yX3_isLink wsX3_isLink) := goodIn_app (goodIn_r _ [19, 20, 9] rfl (by decide +kernel)) ggX3_tellObject_X3_isLink
set_option maxRecDepth 20000 in
theorem ggX3_tellObject_X3_numberOf : GoodIn wsX3_tellObject wsX3_numberOf := goodIn_r _ [25, 26, 27, 28, 29, 30, 31, 32, 33, 34, 35, 36, 37, 38, 39, 40, 41, 42, 43, 44, 45, 46, 47, 48, 49, 50] rfl (by decide +kernel)
set_option maxRecDepth 20000 in
theorem gX3_tellObject_X3_numberOf : GoodIn wsX3_tellObject (wsV RX3 170 RX3 yX3_numberOf wsX3_numberOf) := goodIn_app (goodIn_r _ [22, 23, 24, 9] rfl (by decide +kernel)) ggX3_tellObject_X3_numberOf
