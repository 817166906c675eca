theorem bnc_x21_0 : decs cX2_call [(0, .iload_n 1, 1), (1, .invokestatic 34, 3), (4, .ifCond .eq 12, 3), (7, .iload_n 2, 1), (8, .ifCond .lt 8, 3), (11, .iload_n 2, 1), (12, .iconst 4, 1), (13, .if_icmp .le 5, 3), (16, .iconst (-1), 1), (17, .ireturn, 1), (18, .aload_n 0, 1), (19, .getfield 11, 3), (22, .iload_n 1, 1), (23, .aaload, 1), (24, .astore_n 3, 1), (25, .aload_n 3, 1), (26, .iload_n 2, 1), (27, .iconst 2, 1), (28, .if_icmp .eq 8, 3), (31, .iload_n 2, 1), (32, .iconst 3, 1), (33, .if_icmp .ne 7, 3), (36, .iconst 5, 1), (37, .goto 4, 3)] = true := by decide +kernel
theorem dX2_call_0 : decode cX2_call 0 = .ok (.iload_n 1, 1) := decs_at bnc_x21_0 0 (x := (0, .iload_n 1, 1)) rfl
theorem dX2_call_1 : decode cX2_call 1 = .ok (.invokestatic 34, 3) := decs_at bnc_x21_0 1 (x := (1, .invokestatic 34, 3)) rfl
theorem dX2_call_4 : decode cX2_call 4 = .ok (.ifCond .eq 12, 3) := decs_at bnc_x21_0 2 (x := (4, .ifCond .eq 12, 3)) rfl
theorem dX2_call_7 : decode cX2_call 7 = .ok (.iload_n 2, 1) := decs_at bnc_x21_0 3 (x := (7, .iload_n 2, 1)) rfl
theorem dX2_call_8 : decode cX2_call 8 = .ok (.ifCond .lt 8, 3) := decs_at bnc_x21_0 4 (x := (8, .ifCond .lt 8, 3)) rfl
theorem dX2_call_11 : decode cX2_call 11 = .ok (.iload_n 2, 1) := decs_at bnc_x21_0 5 (x := (11, .iload_n 2, 1)) rfl
theorem dX2_call_12 : decode cX2_call 12 = .ok (.iconst 4, 1) := decs_at bnc_x21_0 6 (x := (12, .iconst 4, 1)) rfl
theorem dX2_call_13 : decode cX2_call 13 = .ok (.if_icmp .le 5, 3) := decs_at bnc_x21_0 7 (x := (13, .if_icmp .le 5, 3)) rfl
theorem dX2_call_16 : decode cX2_call 16 = .ok (.iconst (-1), 1) := decs_at bnc_x21_0 8 (x := (16, .iconst (-1), 1)) rfl
theorem dX2_call_17 : decode cX2_call 17 = .ok (.ireturn, 1) := decs_at bnc_x21_0 9 (x := (17, .ireturn, 1)) rfl
theorem dX2_call_18 : decode cX2_call 18 = .ok (.aload_n 0, 1) := decs_at bnc_x21_0 10 (x := (18, .aload_n 0, 1)) rfl
theorem dX2_call_19 : decode cX2_call 19 = .ok (.getfield 11, 3) := decs_at bnc_x21_0 11 (x := (19, .getfield 11, 3)) rfl
theorem dX2_call_22 : decode cX2_call 22 = .ok (.iload_n 1, 1) := decs_at bnc_x21_0 12 (x := (22, .iload_n 1, 1)) rfl
theorem dX2_call_23 : decode cX2_call 23 = .ok (.aaload, 1) := decs_at bnc_x21_0 13 (x := (23, .aaload, 1)) rfl
theorem dX2_call_24 : decode cX2_call 24 = .ok (.astore_n 3, 1) := decs_at bnc_x21_0 14 (x := (24, .astore_n 3, 1)) rfl
theorem dX2_call_25 : decode cX2_call 25 = .ok (.aload_n 3, 1) := decs_at bnc_x21_0 15 (x := (25, .aload_n 3, 1)) rfl
theorem dX2_call_26 : decode cX2_call 26 = .ok (.iload_n 2, 1) := decs_at bnc_x21_0 16 (x := (26, .iload_n 2, 1)) rfl
theorem dX2_call_27 : decode cX2_call 27 = .ok (.iconst 2, 1) := decs_at bnc_x21_0 17 (x := (27, .iconst 2, 1)) rfl
theorem dX2_call_28 : decode cX2_call 28 = .ok (.if_icmp .eq 8, 3) := decs_at bnc_x21_0 18 (x := (28, .if_icmp .eq 8, 3)) rfl
theorem dX2_call_31 : decode cX2_call 31 = .ok (.iload_n 2, 1) := decs_at bnc_x21_0 19 (x := (31, .iload_n 2, 1)) rfl
theorem dX2_call_32 : decode cX2_call 32 = .ok (.iconst 3, 1) := decs_at bnc_x21_0 20 (x := (32, .iconst 3, 1)) rfl
theorem dX2_call_33 : decode cX2_call 33 = .ok (.if_icmp .ne 7, 3) := decs_at bnc_x21_0 21 (x := (33, .if_icmp .ne 7, 3)) rfl
theorem dX2_call_36 : decode cX2_call 36 = .ok (.iconst 5, 1) := decs_at bnc_x21_0 22 (x := (36, .iconst 5, 1)) rfl
theorem dX2_call_37 : decode cX2_call 37 = .ok (.goto 4, 3) := decs_at bnc_x21_0 23 (x := (37, .goto 4, 3)) rfl
theorem bnc_x21_1 : decs cX2_call [(40, .iconst 0, 1), (41, .invokestatic 61, 3), (44, .istore 4, 2), (46, .iload 4, 2), (48, .ifCond .eq 6, 3), (51, .iload 4, 2), (53, .ireturn, 1), (54, .iload_n 2, 1), (55, .tableswitch 49 0 3 #[29, 34, 39, 44], 29), (84, .aload_n 3, 1), (85, .invokevirtual 101, 3), (88, .ireturn, 1), (89, .aload_n 3, 1), (90, .invokevirtual 105, 3), (93, .ireturn, 1), (94, .aload_n 3, 1), (95, .invokevirtual 108, 3), (98, .ireturn, 1), (99, .aload_n 3, 1), (100, .invokevirtual 111, 3), (103, .ireturn, 1), (104, .aload_n 3, 1), (105, .getfield 114, 3), (108, .ifnonnull 8, 3)] = true := by decide +kernel
theorem dX2_call_40 : decode cX2_call 40 = .ok (.iconst 0, 1) := decs_at bnc_x21_1 0 (x := (40, .iconst 0, 1)) rfl
theorem dX2_call_41 : decode cX2_call 41 = .ok (.invokestatic 61, 3) := decs_at bnc_x21_1 1 (x := (41, .invokestatic 61, 3)) rfl
theorem dX2_call_44 : decode cX2_call 44 = .ok (.istore 4, 2) := decs_at bnc_x21_1 2 (x := (44, .istore 4, 2)) rfl
theorem dX2_call_46 : decode cX2_call 46 = .ok (.iload 4, 2) := decs_at bnc_x21_1 3 (x := (46, .iload 4, 2)) rfl
theorem dX2_call_48 : decode cX2_call 48 = .ok (.ifCond .eq 6, 3) := decs_at bnc_x21_1 4 (x := (48, .ifCond .eq 6, 3)) rfl
theorem dX2_call_51 : decode cX2_call 51 = .ok (.iload 4, 2) := decs_at bnc_x21_1 5 (x := (51, .iload 4, 2)) rfl
theorem dX2_call_53 : decode cX2_call 53 = .ok (.ireturn, 1) := decs_at bnc_x21_1 6 (x := (53, .ireturn, 1)) rfl
theorem dX2_call_54 : decode cX2_call 54 = .ok (.iload_n 2, 1) := decs_at bnc_x21_1 7 (x := (54, .iload_n 2, 1)) rfl
theorem dX2_call_55 : decode cX2_call 55 = .ok (.tableswitch 49 0 3 #[29, 34, 39, 44], 29) := decs_at bnc_x21_1 8 (x := (55, .tableswitch 49 0 3 #[29, 34, 39, 44], 29)) rfl
theorem dX2_call_84 : decode cX2_call 84 = .ok (.aload_n 3, 1) := decs_at bnc_x21_1 9 (x := (84, .aload_n 3, 1)) rfl
theorem dX2_call_85 : decode cX2_call 85 = .ok (.invokevirtual 101, 3) := decs_at bnc_x21_1 10 (x := (85, .invokevirtual 101, 3)) rfl
theorem dX2_call_88 : decode cX2_call 88 = .ok (.ireturn, 1) := decs_at bnc_x21_1 11 (x := (88, .ireturn, 1)) rfl
theorem dX2_call_89 : decode cX2_call 89 = .ok (.aload_n 3, 1) := decs_at bnc_x21_1 12 (x := (89, .aload_n 3, 1)) rfl
theorem dX2_call_90 : decode cX2_call 90 = .ok (.invokevirtual 105, 3) := decs_at bnc_x21_1 13 (x := (90, .invokevirtual 105, 3)) rfl
theorem dX2_call_93 : decode cX2_call 93 = .ok (.ireturn, 1) := decs_at bnc_x21_1 14 (x := (93, .ireturn, 1)) rfl
theorem dX2_call_94 : decode cX2_call 94 = .ok (.aload_n 3, 1) := decs_at bnc_x21_1 15 (x := (94, .aload_n 3, 1)) rfl
theorem dX2_call_95 : decode cX2_call 95 = .ok (.invokevirtual 108, 3) := decs_at bnc_x21_1 16 (x := (95, .invokevirtual 108, 3)) rfl
theorem dX2_call_98 : decode cX2_call 98 = .ok (.ireturn, 1) := decs_at bnc_x21_1 17 (x := (98, .ireturn, 1)) rfl
theorem dX2_call_99 : decode cX2_call 99 = .ok (.aload_n 3, 1) := decs_at bnc_x21_1 18 (x := (99, .aload_n 3, 1)) rfl
theorem dX2_call_100 : decode cX2_call 100 = .ok (.invokevirtual 111, 3) := decs_at bnc_x21_1 19 (x := (100, .invokevirtual 111, 3)) rfl
theorem dX2_call_103 : decode cX2_call 103 = .ok (.ireturn, 1) := decs_at bnc_x21_1 20 (x := (103, .ireturn, 1)) rfl
theorem dX2_call_104 : decode cX2_call 104 = .ok (.aload_n 3, 1) := decs_at bnc_x21_1 21 (x := (104, .aload_n 3, 1)) rfl
theorem dX2_call_105 : decode cX2_call 105 = .ok (.getfield 114, 3) := decs_at bnc_x21_1 22 (x := (105, .getfield 114, 3)) rfl
theorem dX2_call_108 : decode cX2_call 108 = .ok (.ifnonnull 8, 3) := decs_at bnc_x21_1 23 (x := (108, .ifnonnull 8, 3)) rfl
theorem bnc_x21_2 : decs cX2_call [(111, .bipush (-11), 2), (113, .goto 10, 3), (116, .aload_n 3, 1), (117, .getfield 114, 3), (120, .invokevirtual 101, 3), (123, .ireturn, 1)] = true := by decide +kernel
theorem dX2_call_111 : decode cX2_call 111 = .ok (.bipush (-11), 2) := decs_at bnc_x21_2 0 (x := (111, .bipush (-11), 2)) rfl
theorem dX2_call_113 : decode cX2_call 113 = .ok (.goto 10, 3) := decs_at bnc_x21_2 1 (x := (113, .goto 10, 3)) rfl
theorem dX2_call_116 : decode cX2_call 116 = .ok (.aload_n 3, 1) := decs_at bnc_x21_2 2 (x := (116, .aload_n 3, 1)) rfl
theorem dX2_call_117 : decode cX2_call 117 = .ok (.getfield 114, 3) := decs_at bnc_x21_2 3 (x := (117, .getfield 114, 3)) rfl
theorem dX2_call_120 : decode cX2_call 120 = .ok (.invokevirtual 101, 3) := decs_at bnc_x21_2 4 (x := (120, .invokevirtual 101, 3)) rfl
theorem dX2_call_123 : decode cX2_call 123 = .ok (.ireturn, 1) := decs_at bnc_x21_2 5 (x := (123, .ireturn, 1)) rfl
set_option maxRecDepth 20000 in
theorem ggX2_raise_X2_isSlot : GoodIn wsX2_raise wsX2_isSlot := goodIn_r _ [5] rfl (by decide +kernel)
set_option maxRecDepth 20000 in
theorem gX2_raise_X2_isSlot : GoodIn wsX2_raise (va_wsS RX2 34 yX2_isSlot wsX2_isSlot) := goodIn_app (goodIn_r _ [2, 3, 4] rfl (by decide +kernel)) ggX2_raise_X2_isSlot
set_option maxRecDepth 20000 in
theorem ggX2_raise_X2_thrown : GoodIn wsX2_raise wsX2_thrown := goodIn_r _ [8, 9, 10, 11, 4, 12, 13, 14, 15, 16, 17, 18, 28, 29, 30, 31, 32, 33] rfl (by decide +kernel)
set_option maxRecDepth 20000 in
theorem gX2_raise_X2_thrown : GoodIn wsX2_raise (va_wsS RX2 118 yX2_thrown wsX2_thrown) := goodIn_app (goodIn_r _ [6, 7, 4] rfl (by decide +kernel)) ggX2_raise_X2_thrown
theorem bnc_x21_3 : decs cX2_raise [(0, .iload_n 1, 1), (1, .invokestatic 34, 3), (4, .ifCond .eq 15, 3), (7, .aload_n 0, 1), (8, .getfield 11, 3), (11, .iload_n 1, 1), (12, .aaload, 1), (13, .invokestatic 118, 3), (16, .goto 4, 3), (19, .iconst (-1), 1), (20, .ireturn, 1)] = true := by decide +kernel
theorem dX2_raise_0 : decode cX2_raise 0 = .ok (.iload_n 1, 1) := decs_at bnc_x21_3 0 (x := (0, .iload_n 1, 1)) rfl
theorem dX2_raise_1 : decode cX2_raise 1 = .ok (.invokestatic 34, 3) := decs_at bnc_x21_3 1 (x := (1, .invokestatic 34, 3)) rfl
theorem dX2_raise_4 : decode cX2_raise 4 = .ok (.ifCond .eq 15, 3) := decs_at bnc_x21_3 2 (x := (4, .ifCond .eq 15, 3)) rfl
theorem dX2_raise_7 : decode cX2_raise 7 = .ok (.aload_n 0, 1) := decs_at bnc_x21_3 3 (x := (7, .aload_n 0, 1)) rfl
theorem dX2_raise_8 : decode cX2_raise 8 = .ok (.getfield 11, 3) := decs_at bnc_x21_3 4 (x := (8, .getfield 11, 3)) rfl
theorem dX2_raise_11 : decode cX2_raise 11 = .ok (.iload_n 1, 1) := decs_at bnc_x21_3 5 (x := (11, .iload_n 1, 1)) rfl
theorem dX2_raise_12 : decode cX2_raise 12 = .ok (.aaload, 1) := decs_at bnc_x21_3 6 (x := (12, .aaload, 1)) rfl
theorem dX2_raise_13 : decode cX2_raise 13 = .ok (.invokestatic 118, 3) := decs_at bnc_x21_3 7 (x := (13, .invokestatic 118, 3)) rfl
theorem dX2_raise_16 : decode cX2_raise 16 = .ok (.goto 4, 3) := decs_at bnc_x21_3 8 (x := (16, .goto 4, 3)) rfl
theorem dX2_raise_19 : decode cX2_raise 19 = .ok (.iconst (-1), 1) := decs_at bnc_x21_3 9 (x := (19, .iconst (-1), 1)) rfl
theorem dX2_raise_20 : decode cX2_raise 20 = .ok (.ireturn, 1) := decs_at bnc_x21_3 10 (x := (20, .ireturn, 1)) rfl
set_option maxRecDepth 20000 in
theorem ggX2_passes_X2_isSlot : GoodIn wsX2_passes wsX2_isSlot := goodIn_r _ [6] rfl (by decide +kernel)
set_option maxRecDepth 20000 in
theorem gX2_passes_X2_isSlot : GoodIn wsX2_passes (va_wsS RX2 34 yX2_isSlot wsX2_isSlot) := goodIn_app (goodIn_r _ [3, 4, 5] rfl (by decide +kernel)) ggX2_passes_X2_isSlot
set_option maxRecDepth 20000 in
theorem ggX2_passes_X2_thrown : GoodIn wsX2_passes wsX2_thrown := goodIn_r _ [9, 10, 11, 12, 5, 13, 14, 15, 16, 17, 18, 19, 29, 30, 31, 32, 33, 34] rfl (by decide +kernel)
set_option maxRecDepth 20000 in
theorem gX2_passes_X2_thrown : GoodIn wsX2_passes (va_wsS RX2 118 yX2_thrown wsX2_thrown) := goodIn_app (goodIn_r _ [7, 8, 5] rfl (by decide +kernel)) ggX2_passes_X2_thrown
theorem bnc_x21_4 : decs cX2_passes [(0, .iload_n 1, 1), (1, .invokestatic 34, 3), (4, .ifCond .eq 14, 3), (7, .iload_n 2, 1), (8, .iconst 1, 1), (9, .if_icmp .lt 9, 3), (12, .iload_n 2, 1), (13, .bipush 12, 2), (15, .if_icmp .le 5, 3), (18, .iconst (-1), 1), (19, .ireturn, 1), (20, .aload_n 0, 1), (21, .iload_n 2, 1), (22, .putfield 121, 3), (25, .aload_n 0, 1), (26, .getfield 11, 3), (29, .iload_n 1, 1), (30, .aaload, 1), (31, .invokestatic 118, 3), (34, .ireturn, 1)] = true := by decide +kernel
theorem dX2_passes_0 : decode cX2_passes 0 = .ok (.iload_n 1, 1) := decs_at bnc_x21_4 0 (x := (0, .iload_n 1, 1)) rfl
theorem dX2_passes_1 : decode cX2_passes 1 = .ok (.invokestatic 34, 3) := decs_at bnc_x21_4 1 (x := (1, .invokestatic 34, 3)) rfl
theorem dX2_passes_4 : decode cX2_passes 4 = .ok (.ifCond .eq 14, 3) := decs_at bnc_x21_4 2 (x := (4, .ifCond .eq 14, 3)) rfl
theorem dX2_passes_7 : decode cX2_passes 7 = .ok (.iload_n 2, 1) := decs_at bnc_x21_4 3 (x := (7, .iload_n 2, 1)) rfl
theorem dX2_passes_8 : decode cX2_passes 8 = .ok (.iconst 1, 1) := decs_at bnc_x21_4 4 (x := (8, .iconst 1, 1)) rfl
theorem dX2_passes_9 : decode cX2_passes 9 = .ok (.if_icmp .lt 9, 3) := decs_at bnc_x21_4 5 (x := (9, .if_icmp .lt 9, 3)) rfl
theorem dX2_passes_12 : decode cX2_passes 12 = .ok (.iload_n 2, 1) := decs_at bnc_x21_4 6 (x := (12, .iload_n 2, 1)) rfl
theorem dX2_passes_13 : decode cX2_passes 13 = .ok (.bipush 12, 2) := decs_at bnc_x21_4 7 (x := (13, .bipush 12, 2)) rfl
theorem dX2_passes_15 : decode cX2_passes 15 = .ok (.if_icmp .le 5, 3) := decs_at bnc_x21_4 8 (x := (15, .if_icmp .le 5, 3)) rfl
theorem dX2_passes_18 : decode cX2_passes 18 = .ok (.iconst (-1), 1) := decs_at bnc_x21_4 9 (x := (18, .iconst (-1), 1)) rfl
theorem dX2_passes_19 : decode cX2_passes 19 = .ok (.ireturn, 1) := decs_at bnc_x21_4 10 (x := (19, .ireturn, 1)) rfl
theorem dX2_passes_20 : decode cX2_passes 20 = .ok (.aload_n 0, 1) := decs_at bnc_x21_4 11 (x := (20, .aload_n 0, 1)) rfl
theorem dX2_passes_21 : decode cX2_passes 21 = .ok (.iload_n 2, 1) := decs_at bnc_x21_4 12 (x := (21, .iload_n 2, 1)) rfl
theorem dX2_passes_22 : decode cX2_passes 22 = .ok (.putfield 121, 3) := decs_at bnc_x21_4 13 (x := (22, .putfield 121, 3)) rfl
theorem dX2_passes_25 : decode cX2_passes 25 = .ok (.aload_n 0, 1) := decs_at bnc_x21_4 14 (x := (25, .aload_n 0, 1)) rfl
theorem dX2_passes_26 : decode cX2_passes 26 = .ok (.getfield 11, 3) := decs_at bnc_x21_4 15 (x := (26, .getfield 11, 3)) rfl
theorem dX2_passes_29 : decode cX2_passes 29 = .ok (.iload_n 1, 1) := decs_at bnc_x21_4 16 (x := (29, .iload_n 1, 1)) rfl
theorem dX2_passes_30 : decode cX2_passes 30 = .ok (.aaload, 1) := decs_at bnc_x21_4 17 (x := (30, .aaload, 1)) rfl
theorem dX2_passes_31 : decode cX2_passes 31 = .ok (.invokestatic 118, 3) := decs_at bnc_x21_4 18 (x := (31, .invokestatic 118, 3)) rfl
theorem dX2_passes_34 : decode cX2_passes 34 = .ok (.ireturn, 1) := decs_at bnc_x21_4 19 (x := (34, .ireturn, 1)) rfl
theorem bnc_x21_5 : decs cX2_passed [(0, .aload_n 0, 1), (1, .getfield 121, 3), (4, .ireturn, 1)] = true := by decide +kernel
theorem dX2_passed_0 : decode cX2_passed 0 = .ok (.aload_n 0, 1) := decs_at bnc_x21_5 0 (x := (0, .aload_n 0, 1)) rfl
theorem dX2_passed_1 : decode cX2_passed 1 = .ok (.getfield 121, 3) := decs_at bnc_x21_5 1 (x := (1, .getfield 121, 3)) rfl
theorem dX2_passed_4 : decode cX2_passed 4 = .ok (.ireturn, 1) := decs_at bnc_x21_5 2 (x := (4, .ireturn, 1)) rfl
set_option maxRecDepth 20000 in
theorem ggX2_leaves_X2_isSlot : GoodIn wsX2_leaves wsX2_isSlot := goodIn_r _ [8] rfl (by decide +kernel)
set_option maxRecDepth 20000 in
theorem gX2_leaves_X2_isSlot : GoodIn wsX2_leaves (va_wsS RX2 34 yX2_isSlot wsX2_isSlot) := goodIn_app (goodIn_r _ [5, 6, 7] rfl (by decide +kernel)) ggX2_leaves_X2_isSlot
set_option maxRecDepth 20000 in
theorem ggX2_leaves_X2_tell : GoodIn wsX2_leaves wsX2_tell := goodIn_r _ [12, 4, 13, 14, 15, 16, 7, 17, 18, 19, 20, 21, 22, 23, 24, 25, 26, 27, 28, 29, 30, 31, 32, 33, 34, 35, 36, 37, 38, 39, 40, 41, 42, 43, 44, 45, 46, 47, 48, 49, 50, 51, 52, 53, 54, 55, 56, 57, 58, 59, 60, 61, 71, 72, 73, 74, 62, 63, 64, 65, 66, 67, 68, 69, 70, 75, 76, 77, 78, 79, 80] rfl (by decide +kernel)
set_option maxRecDepth 20000 in
theorem gX2_leaves_X2_tell : GoodIn wsX2_leaves (wsV RX2 124 RX2 yX2_tell wsX2_tell) := goodIn_app (goodIn_r _ [9, 10, 11, 7] rfl (by decide +kernel)) ggX2_leaves_X2_tell
theorem bnc_x21_6 : decs cX2_leaves [(0, .iload_n 1, 1), (1, .invokestatic 34, 3), (4, .ifCond .ne 5, 3), (7, .iconst (-1), 1), (8, .ireturn, 1), (9, .aload_n 0, 1), (10, .getfield 11, 3), (13, .iload_n 1, 1), (14, .aaload, 1), (15, .astore_n 2, 1), (16, .aload_n 2, 1), (17, .ifnonnull 6, 3), (20, .bipush (-11), 2), (22, .ireturn, 1), (23, .aload_n 0, 1), (24, .aload_n 2, 1), (25, .aload_n 0, 1), (26, .getfield 22, 3), (29, .invokevirtual 124, 3), (32, .ifCond .ne 6, 3), (35, .bipush (-3), 2), (37, .ireturn, 1), (38, .aload_n 0, 1), (39, .getfield 18, 3)] = true := by decide +kernel
theorem dX2_leaves_0 : decode cX2_leaves 0 = .ok (.iload_n 1, 1) := decs_at bnc_x21_6 0 (x := (0, .iload_n 1, 1)) rfl
theorem dX2_leaves_1 : decode cX2_leaves 1 = .ok (.invokestatic 34, 3) := decs_at bnc_x21_6 1 (x := (1, .invokestatic 34, 3)) rfl
theorem dX2_leaves_4 : decode cX2_leaves 4 = .ok (.ifCond .ne 5, 3) := decs_at bnc_x21_6 2 (x := (4, .ifCond .ne 5, 3)) rfl
theorem dX2_leaves_7 : decode cX2_leaves 7 = .ok (.iconst (-1), 1) := decs_at bnc_x21_6 3 (x := (7, .iconst (-1), 1)) rfl
theorem dX2_leaves_8 : decode cX2_leaves 8 = .ok (.ireturn, 1) := decs_at bnc_x21_6 4 (x := (8, .ireturn, 1)) rfl
theorem dX2_leaves_9 : decode cX2_leaves 9 = .ok (.aload_n 0, 1) := decs_at bnc_x21_6 5 (x := (9, .aload_n 0, 1)) rfl
theorem dX2_leaves_10 : decode cX2_leaves 10 = .ok (.getfield 11, 3) := decs_at bnc_x21_6 6 (x := (10, .getfield 11, 3)) rfl
theorem dX2_leaves_13 : decode cX2_leaves 13 = .ok (.iload_n 1, 1) := decs_at bnc_x21_6 7 (x := (13, .iload_n 1, 1)) rfl
theorem dX2_leaves_14 : decode cX2_leaves 14 = .ok (.aaload, 1) := decs_at bnc_x21_6 8 (x := (14, .aaload, 1)) rfl
theorem dX2_leaves_15 : decode cX2_leaves 15 = .ok (.astore_n 2, 1) := decs_at bnc_x21_6 9 (x := (15, .astore_n 2, 1)) rfl
theorem dX2_leaves_16 : decode cX2_leaves 16 = .ok (.aload_n 2, 1) := decs_at bnc_x21_6 10 (x := (16, .aload_n 2, 1)) rfl
theorem dX2_leaves_17 : decode cX2_leaves 17 = .ok (.ifnonnull 6, 3) := decs_at bnc_x21_6 11 (x := (17, .ifnonnull 6, 3)) rfl
theorem dX2_leaves_20 : decode cX2_leaves 20 = .ok (.bipush (-11), 2) := decs_at bnc_x21_6 12 (x := (20, .bipush (-11), 2)) rfl
theorem dX2_leaves_22 : decode cX2_leaves 22 = .ok (.ireturn, 1) := decs_at bnc_x21_6 13 (x := (22, .ireturn, 1)) rfl
theorem dX2_leaves_23 : decode cX2_leaves 23 = .ok (.aload_n 0, 1) := decs_at bnc_x21_6 14 (x := (23, .aload_n 0, 1)) rfl
theorem dX2_leaves_24 : decode cX2_leaves 24 = .ok (.aload_n 2, 1) := decs_at bnc_x21_6 15 (x := (24, .aload_n 2, 1)) rfl
theorem dX2_leaves_25 : decode cX2_leaves 25 = .ok (.aload_n 0, 1) := decs_at bnc_x21_6 16 (x := (25, .aload_n 0, 1)) rfl
theorem dX2_leaves_26 : decode cX2_leaves 26 = .ok (.getfield 22, 3) := decs_at bnc_x21_6 17 (x := (26, .getfield 22, 3)) rfl
theorem dX2_leaves_29 : decode cX2_leaves 29 = .ok (.invokevirtual 124, 3) := decs_at bnc_x21_6 18 (x := (29, .invokevirtual 124, 3)) rfl
theorem dX2_leaves_32 : decode cX2_leaves 32 = .ok (.ifCond .ne 6, 3) := decs_at bnc_x21_6 19 (x := (32, .ifCond .ne 6, 3)) rfl
theorem dX2_leaves_35 : decode cX2_leaves 35 = .ok (.bipush (-3), 2) := decs_at bnc_x21_6 20 (x := (35, .bipush (-3), 2)) rfl
theorem dX2_leaves_37 : decode cX2_leaves 37 = .ok (.ireturn, 1) := decs_at bnc_x21_6 21 (x := (37, .ireturn, 1)) rfl
theorem dX2_leaves_38 : decode cX2_leaves 38 = .ok (.aload_n 0, 1) := decs_at bnc_x21_6 22 (x := (38, .aload_n 0, 1)) rfl
theorem dX2_leaves_39 : decode cX2_leaves 39 = .ok (.getfield 18, 3) := decs_at bnc_x21_6 23 (x := (39, .getfield 18, 3)) rfl
theorem bnc_x21_7 : decs cX2_leaves [(42, .astore_n 3, 1), (43, .aload_n 0, 1), (44, .aload_n 0, 1), (45, .getfield 22, 3), (48, .putfield 18, 3), (51, .aload_n 0, 1), (52, .aload_n 3, 1), (53, .putfield 22, 3), (56, .aload_n 0, 1), (57, .getfield 18, 3), (60, .getfield 128, 3), (63, .ireturn, 1)] = true := by decide +kernel
theorem dX2_leaves_42 : decode cX2_leaves 42 = .ok (.astore_n 3, 1) := decs_at bnc_x21_7 0 (x := (42, .astore_n 3, 1)) rfl
theorem dX2_leaves_43 : decode cX2_leaves 43 = .ok (.aload_n 0, 1) := decs_at bnc_x21_7 1 (x := (43, .aload_n 0, 1)) rfl
theorem dX2_leaves_44 : decode cX2_leaves 44 = .ok (.aload_n 0, 1) := decs_at bnc_x21_7 2 (x := (44, .aload_n 0, 1)) rfl
theorem dX2_leaves_45 : decode cX2_leaves 45 = .ok (.getfield 22, 3) := decs_at bnc_x21_7 3 (x := (45, .getfield 22, 3)) rfl
theorem dX2_leaves_48 : decode cX2_leaves 48 = .ok (.putfield 18, 3) := decs_at bnc_x21_7 4 (x := (48, .putfield 18, 3)) rfl
theorem dX2_leaves_51 : decode cX2_leaves 51 = .ok (.aload_n 0, 1) := decs_at bnc_x21_7 5 (x := (51, .aload_n 0, 1)) rfl
theorem dX2_leaves_52 : decode cX2_leaves 52 = .ok (.aload_n 3, 1) := decs_at bnc_x21_7 6 (x := (52, .aload_n 3, 1)) rfl
theorem dX2_leaves_53 : decode cX2_leaves 53 = .ok (.putfield 22, 3) := decs_at bnc_x21_7 7 (x := (53, .putfield 22, 3)) rfl
theorem dX2_leaves_56 : decode cX2_leaves 56 = .ok (.aload_n 0, 1) := decs_at bnc_x21_7 8 (x := (56, .aload_n 0, 1)) rfl
theorem dX2_leaves_57 : decode cX2_leaves 57 = .ok (.getfield 18, 3) := decs_at bnc_x21_7 9 (x := (57, .getfield 18, 3)) rfl
theorem dX2_leaves_60 : decode cX2_leaves 60 = .ok (.getfield 128, 3) := decs_at bnc_x21_7 10 (x := (60, .getfield 128, 3)) rfl
theorem dX2_leaves_63 : decode cX2_leaves 63 = .ok (.ireturn, 1) := decs_at bnc_x21_7 11 (x := (63, .ireturn, 1)) rfl
set_option maxRecDepth 20000 in
theorem ggX2_leaf_X0_has : GoodIn wsX2_leaf wsX0_has := goodIn_r _ [10, 11, 21, 22, 23, 24] rfl (by decide +kernel)
set_option maxRecDepth 20000 in
theorem gX2_leaf_X0_has : GoodIn wsX2_leaf (wsV RX2 131 RX0 yX0_has wsX0_has) := goodIn_app (goodIn_r _ [6, 7, 8, 9] rfl (by decide +kernel)) ggX2_leaf_X0_has
theorem bnc_x21_8 : decs cX2_leaf [(0, .aload_n 0, 1), (1, .getfield 18, 3), (4, .iload_n 1, 1), (5, .invokevirtual 131, 3), (8, .ifCond .eq 12, 3), (11, .iload_n 2, 1), (12, .ifCond .lt 8, 3), (15, .iload_n 2, 1), (16, .iconst 2, 1), (17, .if_icmp .le 7, 3), (20, .ldc2_w 55, 3), (23, .lreturn, 1), (24, .iload_n 2, 1), (25, .ifCond .ne 14, 3), (28, .aload_n 0, 1), (29, .getfield 18, 3), (32, .getfield 134, 3), (35, .iload_n 1, 1), (36, .iaload, 1), (37, .i2l, 1), (38, .lreturn, 1), (39, .iload_n 2, 1), (40, .iconst 1, 1), (41, .if_icmp .ne 16, 3)] = true := by decide +kernel
theorem dX2_leaf_0 : decode cX2_leaf 0 = .ok (.aload_n 0, 1) := decs_at bnc_x21_8 0 (x := (0, .aload_n 0, 1)) rfl
theorem dX2_leaf_1 : decode cX2_leaf 1 = .ok (.getfield 18, 3) := decs_at bnc_x21_8 1 (x := (1, .getfield 18, 3)) rfl
theorem dX2_leaf_4 : decode cX2_leaf 4 = .ok (.iload_n 1, 1) := decs_at bnc_x21_8 2 (x := (4, .iload_n 1, 1)) rfl
theorem dX2_leaf_5 : decode cX2_leaf 5 = .ok (.invokevirtual 131, 3) := decs_at bnc_x21_8 3 (x := (5, .invokevirtual 131, 3)) rfl
theorem dX2_leaf_8 : decode cX2_leaf 8 = .ok (.ifCond .eq 12, 3) := decs_at bnc_x21_8 4 (x := (8, .ifCond .eq 12, 3)) rfl
theorem dX2_leaf_11 : decode cX2_leaf 11 = .ok (.iload_n 2, 1) := decs_at bnc_x21_8 5 (x := (11, .iload_n 2, 1)) rfl
theorem dX2_leaf_12 : decode cX2_leaf 12 = .ok (.ifCond .lt 8, 3) := decs_at bnc_x21_8 6 (x := (12, .ifCond .lt 8, 3)) rfl
theorem dX2_leaf_15 : decode cX2_leaf 15 = .ok (.iload_n 2, 1) := decs_at bnc_x21_8 7 (x := (15, .iload_n 2, 1)) rfl
theorem dX2_leaf_16 : decode cX2_leaf 16 = .ok (.iconst 2, 1) := decs_at bnc_x21_8 8 (x := (16, .iconst 2, 1)) rfl
theorem dX2_leaf_17 : decode cX2_leaf 17 = .ok (.if_icmp .le 7, 3) := decs_at bnc_x21_8 9 (x := (17, .if_icmp .le 7, 3)) rfl
theorem dX2_leaf_20 : decode cX2_leaf 20 = .ok (.ldc2_w 55, 3) := decs_at bnc_x21_8 10 (x := (20, .ldc2_w 55, 3)) rfl
theorem dX2_leaf_23 : decode cX2_leaf 23 = .ok (.lreturn, 1) := decs_at bnc_x21_8 11 (x := (23, .lreturn, 1)) rfl
theorem dX2_leaf_24 : decode cX2_leaf 24 = .ok (.iload_n 2, 1) := decs_at bnc_x21_8 12 (x := (24, .iload_n 2, 1)) rfl
theorem dX2_leaf_25 : decode cX2_leaf 25 = .ok (.ifCond .ne 14, 3) := decs_at bnc_x21_8 13 (x := (25, .ifCond .ne 14, 3)) rfl
theorem dX2_leaf_28 : decode cX2_leaf 28 = .ok (.aload_n 0, 1) := decs_at bnc_x21_8 14 (x := (28, .aload_n 0, 1)) rfl
theorem dX2_leaf_29 : decode cX2_leaf 29 = .ok (.getfield 18, 3) := decs_at bnc_x21_8 15 (x := (29, .getfield 18, 3)) rfl
theorem dX2_leaf_32 : decode cX2_leaf 32 = .ok (.getfield 134, 3) := decs_at bnc_x21_8 16 (x := (32, .getfield 134, 3)) rfl
theorem dX2_leaf_35 : decode cX2_leaf 35 = .ok (.iload_n 1, 1) := decs_at bnc_x21_8 17 (x := (35, .iload_n 1, 1)) rfl
theorem dX2_leaf_36 : decode cX2_leaf 36 = .ok (.iaload, 1) := decs_at bnc_x21_8 18 (x := (36, .iaload, 1)) rfl
theorem dX2_leaf_37 : decode cX2_leaf 37 = .ok (.i2l, 1) := decs_at bnc_x21_8 19 (x := (37, .i2l, 1)) rfl
theorem dX2_leaf_38 : decode cX2_leaf 38 = .ok (.lreturn, 1) := decs_at bnc_x21_8 20 (x := (38, .lreturn, 1)) rfl
theorem dX2_leaf_39 : decode cX2_leaf 39 = .ok (.iload_n 2, 1) := decs_at bnc_x21_8 21 (x := (39, .iload_n 2, 1)) rfl
theorem dX2_leaf_40 : decode cX2_leaf 40 = .ok (.iconst 1, 1) := decs_at bnc_x21_8 22 (x := (40, .iconst 1, 1)) rfl
theorem dX2_leaf_41 : decode cX2_leaf 41 = .ok (.if_icmp .ne 16, 3) := decs_at bnc_x21_8 23 (x := (41, .if_icmp .ne 16, 3)) rfl
theorem bnc_x21_9 : decs cX2_leaf [(44, .aload_n 0, 1), (45, .getfield 18, 3), (48, .getfield 137, 3), (51, .iload_n 1, 1), (52, .iaload, 1), (53, .i2l, 1), (54, .goto 12, 3), (57, .aload_n 0, 1), (58, .getfield 18, 3), (61, .getfield 140, 3), (64, .iload_n 1, 1), (65, .laload, 1), (66, .lreturn, 1)] = true := by decide +kernel
theorem dX2_leaf_44 : decode cX2_leaf 44 = .ok (.aload_n 0, 1) := decs_at bnc_x21_9 0 (x := (44, .aload_n 0, 1)) rfl
theorem dX2_leaf_45 : decode cX2_leaf 45 = .ok (.getfield 18, 3) := decs_at bnc_x21_9 1 (x := (45, .getfield 18, 3)) rfl
theorem dX2_leaf_48 : decode cX2_leaf 48 = .ok (.getfield 137, 3) := decs_at bnc_x21_9 2 (x := (48, .getfield 137, 3)) rfl
theorem dX2_leaf_51 : decode cX2_leaf 51 = .ok (.iload_n 1, 1) := decs_at bnc_x21_9 3 (x := (51, .iload_n 1, 1)) rfl
theorem dX2_leaf_52 : decode cX2_leaf 52 = .ok (.iaload, 1) := decs_at bnc_x21_9 4 (x := (52, .iaload, 1)) rfl
theorem dX2_leaf_53 : decode cX2_leaf 53 = .ok (.i2l, 1) := decs_at bnc_x21_9 5 (x := (53, .i2l, 1)) rfl
theorem dX2_leaf_54 : decode cX2_leaf 54 = .ok (.goto 12, 3) := decs_at bnc_x21_9 6 (x := (54, .goto 12, 3)) rfl
theorem dX2_leaf_57 : decode cX2_leaf 57 = .ok (.aload_n 0, 1) := decs_at bnc_x21_9 7 (x := (57, .aload_n 0, 1)) rfl
theorem dX2_leaf_58 : decode cX2_leaf 58 = .ok (.getfield 18, 3) := decs_at bnc_x21_9 8 (x := (58, .getfield 18, 3)) rfl
theorem dX2_leaf_61 : decode cX2_leaf 61 = .ok (.getfield 140, 3) := decs_at bnc_x21_9 9 (x := (61, .getfield 140, 3)) rfl
theorem dX2_leaf_64 : decode cX2_leaf 64 = .ok (.iload_n 1, 1) := decs_at bnc_x21_9 10 (x := (64, .iload_n 1, 1)) rfl
theorem dX2_leaf_65 : decode cX2_leaf 65 = .ok (.laload, 1) := decs_at bnc_x21_9 11 (x := (65, .laload, 1)) rfl
theorem dX2_leaf_66 : decode cX2_leaf 66 = .ok (.lreturn, 1) := decs_at bnc_x21_9 12 (x := (66, .lreturn, 1)) rfl
set_option maxRecDepth 20000 in
theorem ggX2_alter_X0_has : GoodIn wsX2_alter wsX0_has := goodIn_r _ [8, 9, 19, 20, 21, 22] rfl (by decide +kernel)
set_option maxRecDepth 20000 in
theorem gX2_alter_X0_has : GoodIn wsX2_alter (wsV RX2 131 RX0 yX0_has wsX0_has) := goodIn_app (goodIn_r _ [4, 5, 6, 7] rfl (by decide +kernel)) ggX2_alter_X0_has
theorem bnc_x21_10 : decs cX2_alter [(0, .aload_n 0, 1), (1, .getfield 18, 3), (4, .iload_n 1, 1), (5, .invokevirtual 131, 3), (8, .ifCond .eq 30, 3), (11, .aload_n 0, 1), (12, .getfield 18, 3), (15, .getfield 137, 3), (18, .iload_n 1, 1), (19, .iaload, 1), (20, .iconst (-1), 1), (21, .if_icmp .eq 17, 3), (24, .aload_n 0, 1), (25, .getfield 18, 3), (28, .getfield 137, 3), (31, .iload_n 1, 1), (32, .iaload, 1), (33, .bipush 9, 2), (35, .if_icmp .ne 5, 3), (38, .iconst (-1), 1), (39, .ireturn, 1), (40, .aload_n 0, 1), (41, .getfield 18, 3), (44, .getfield 140, 3)] = true := by decide +kernel
theorem dX2_alter_0 : decode cX2_alter 0 = .ok (.aload_n 0, 1) := decs_at bnc_x21_10 0 (x := (0, .aload_n 0, 1)) rfl
theorem dX2_alter_1 : decode cX2_alter 1 = .ok (.getfield 18, 3) := decs_at bnc_x21_10 1 (x := (1, .getfield 18, 3)) rfl
theorem dX2_alter_4 : decode cX2_alter 4 = .ok (.iload_n 1, 1) := decs_at bnc_x21_10 2 (x := (4, .iload_n 1, 1)) rfl
theorem dX2_alter_5 : decode cX2_alter 5 = .ok (.invokevirtual 131, 3) := decs_at bnc_x21_10 3 (x := (5, .invokevirtual 131, 3)) rfl
theorem dX2_alter_8 : decode cX2_alter 8 = .ok (.ifCond .eq 30, 3) := decs_at bnc_x21_10 4 (x := (8, .ifCond .eq 30, 3)) rfl
theorem dX2_alter_11 : decode cX2_alter 11 = .ok (.aload_n 0, 1) := decs_at bnc_x21_10 5 (x := (11, .aload_n 0, 1)) rfl
theorem dX2_alter_12 : decode cX2_alter 12 = .ok (.getfield 18, 3) := decs_at bnc_x21_10 6 (x := (12, .getfield 18, 3)) rfl
theorem dX2_alter_15 : decode cX2_alter 15 = .ok (.getfield 137, 3) := decs_at bnc_x21_10 7 (x := (15, .getfield 137, 3)) rfl
theorem dX2_alter_18 : decode cX2_alter 18 = .ok (.iload_n 1, 1) := decs_at bnc_x21_10 8 (x := (18, .iload_n 1, 1)) rfl
theorem dX2_alter_19 : decode cX2_alter 19 = .ok (.iaload, 1) := decs_at bnc_x21_10 9 (x := (19, .iaload, 1)) rfl
theorem dX2_alter_20 : decode cX2_alter 20 = .ok (.iconst (-1), 1) := decs_at bnc_x21_10 10 (x := (20, .iconst (-1), 1)) rfl
theorem dX2_alter_21 : decode cX2_alter 21 = .ok (.if_icmp .eq 17, 3) := decs_at bnc_x21_10 11 (x := (21, .if_icmp .eq 17, 3)) rfl
theorem dX2_alter_24 : decode cX2_alter 24 = .ok (.aload_n 0, 1) := decs_at bnc_x21_10 12 (x := (24, .aload_n 0, 1)) rfl
theorem dX2_alter_25 : decode cX2_alter 25 = .ok (.getfield 18, 3) := decs_at bnc_x21_10 13 (x := (25, .getfield 18, 3)) rfl
theorem dX2_alter_28 : decode cX2_alter 28 = .ok (.getfield 137, 3) := decs_at bnc_x21_10 14 (x := (28, .getfield 137, 3)) rfl
theorem dX2_alter_31 : decode cX2_alter 31 = .ok (.iload_n 1, 1) := decs_at bnc_x21_10 15 (x := (31, .iload_n 1, 1)) rfl
theorem dX2_alter_32 : decode cX2_alter 32 = .ok (.iaload, 1) := decs_at bnc_x21_10 16 (x := (32, .iaload, 1)) rfl
theorem dX2_alter_33 : decode cX2_alter 33 = .ok (.bipush 9, 2) := decs_at bnc_x21_10 17 (x := (33, .bipush 9, 2)) rfl
theorem dX2_alter_35 : decode cX2_alter 35 = .ok (.if_icmp .ne 5, 3) := decs_at bnc_x21_10 18 (x := (35, .if_icmp .ne 5, 3)) rfl
theorem dX2_alter_38 : decode cX2_alter 38 = .ok (.iconst (-1), 1) := decs_at bnc_x21_10 19 (x := (38, .iconst (-1), 1)) rfl
theorem dX2_alter_39 : decode cX2_alter 39 = .ok (.ireturn, 1) := decs_at bnc_x21_10 20 (x := (39, .ireturn, 1)) rfl
theorem dX2_alter_40 : decode cX2_alter 40 = .ok (.aload_n 0, 1) := decs_at bnc_x21_10 21 (x := (40, .aload_n 0, 1)) rfl
theorem dX2_alter_41 : decode cX2_alter 41 = .ok (.getfield 18, 3) := decs_at bnc_x21_10 22 (x := (41, .getfield 18, 3)) rfl
theorem dX2_alter_44 : decode cX2_alter 44 = .ok (.getfield 140, 3) := decs_at bnc_x21_10 23 (x := (44, .getfield 140, 3)) rfl
theorem bnc_x21_11 : decs cX2_alter [(47, .iload_n 1, 1), (48, .lload_n 2, 1), (49, .lastore, 1), (50, .iconst 1, 1), (51, .ireturn, 1)] = true := by decide +kernel
theorem dX2_alter_47 : decode cX2_alter 47 = .ok (.iload_n 1, 1) := decs_at bnc_x21_11 0 (x := (47, .iload_n 1, 1)) rfl
theorem dX2_alter_48 : decode cX2_alter 48 = .ok (.lload_n 2, 1) := decs_at bnc_x21_11 1 (x := (48, .lload_n 2, 1)) rfl
theorem dX2_alter_49 : decode cX2_alter 49 = .ok (.lastore, 1) := decs_at bnc_x21_11 2 (x := (49, .lastore, 1)) rfl
theorem dX2_alter_50 : decode cX2_alter 50 = .ok (.iconst 1, 1) := decs_at bnc_x21_11 3 (x := (50, .iconst 1, 1)) rfl
theorem dX2_alter_51 : decode cX2_alter 51 = .ok (.ireturn, 1) := decs_at bnc_x21_11 4 (x := (51, .ireturn, 1)) rfl
set_option maxRecDepth 20000 in
theorem ggX2_back_X2_isSlot : GoodIn wsX2_back wsX2_isSlot := goodIn_r _ [9] rfl (by decide +kernel)
set_option maxRecDepth 20000 in
theorem gX2_back_X2_isSlot : GoodIn wsX2_back (va_wsS RX2 34 yX2_isSlot wsX2_isSlot) := goodIn_app (goodIn_r _ [6, 7, 8] rfl (by decide +kernel)) ggX2_back_X2_isSlot
set_option maxRecDepth 20000 in
theorem ggX2_back_X2_makeFromLeaves : GoodIn wsX2_back wsX2_makeFromLeaves := goodIn_r _ [13, 5, 1, 2, 14, 15, 4, 16, 17, 18, 19, 20, 21, 22, 23, 24, 25, 26, 27, 8, 28, 29, 30, 31, 32, 33, 34, 35, 36, 37, 38, 39, 40, 41, 42, 43, 44, 45, 46, 47, 48, 49, 50, 51, 52, 53, 54, 55, 105, 106, 107, 108, 109, 110, 111, 112, 113, 114, 115, 116, 117, 118, 119, 120, 121, 122, 123] rfl (by decide +kernel)
set_option maxRecDepth 20000 in
theorem gX2_back_X2_makeFromLeaves : GoodIn wsX2_back (wsV RX2 141 RX2 yX2_makeFromLeaves wsX2_makeFromLeaves) := goodIn_app (goodIn_r _ [10, 11, 12, 8] rfl (by decide +kernel)) ggX2_back_X2_makeFromLeaves
set_option maxRecDepth 20000 in
theorem ggX2_back_X2_fillFromLeaves : GoodIn wsX2_back wsX2_fillFromLeaves := goodIn_r _ [59, 1, 2, 60, 14, 15, 61, 62, 63, 8, 64, 5, 4, 65, 66, 67, 68, 69, 70, 71, 72, 73, 74, 75, 31, 76, 77, 78, 79, 80, 81, 82, 83, 84, 85, 86, 87, 88, 18, 89, 55, 90, 91, 92, 93, 94, 95, 96, 97, 98, 99, 100, 101, 102, 103, 27, 28, 104, 29, 30, 32, 33, 34, 35, 36, 37, 38, 39, 40, 41, 42, 43, 105, 106, 107, 108, 109, 110, 111, 112, 113, 114, 115, 116, 117, 118, 119, 120, 121, 122, 123] rfl (by decide +kernel)
set_option maxRecDepth 20000 in
theorem gX2_back_X2_fillFromLeaves : GoodIn wsX2_back (wsV RX2 144 RX2 yX2_fillFromLeaves wsX2_fillFromLeaves) := goodIn_app (goodIn_r _ [56, 57, 58, 8] rfl (by decide +kernel)) ggX2_back_X2_fillFromLeaves
theorem bnc_x21_12 : decs cX2_back [(0, .iload_n 1, 1), (1, .invokestatic 34, 3), (4, .ifCond .ne 5, 3), (7, .iconst (-1), 1), (8, .ireturn, 1), (9, .aload_n 0, 1), (10, .getfield 18, 3), (13, .getfield 128, 3), (16, .ifCond .ne 6, 3), (19, .bipush (-3), 2), (21, .ireturn, 1), (22, .aload_n 0, 1), (23, .invokevirtual 141, 3), (26, .istore_n 2, 1), (27, .iload_n 2, 1), (28, .ifCond .ne 8, 3), (31, .aload_n 0, 1), (32, .invokevirtual 144, 3), (35, .istore_n 2, 1), (36, .iload_n 2, 1), (37, .ifCond .eq 5, 3), (40, .iload_n 2, 1), (41, .ireturn, 1), (42, .aload_n 0, 1)] = true := by decide +kernel
theorem dX2_back_0 : decode cX2_back 0 = .ok (.iload_n 1, 1) := decs_at bnc_x21_12 0 (x := (0, .iload_n 1, 1)) rfl
theorem dX2_back_1 : decode cX2_back 1 = .ok (.invokestatic 34, 3) := decs_at bnc_x21_12 1 (x := (1, .invokestatic 34, 3)) rfl
theorem dX2_back_4 : decode cX2_back 4 = .ok (.ifCond .ne 5, 3) := decs_at bnc_x21_12 2 (x := (4, .ifCond .ne 5, 3)) rfl
theorem dX2_back_7 : decode cX2_back 7 = .ok (.iconst (-1), 1) := decs_at bnc_x21_12 3 (x := (7, .iconst (-1), 1)) rfl
theorem dX2_back_8 : decode cX2_back 8 = .ok (.ireturn, 1) := decs_at bnc_x21_12 4 (x := (8, .ireturn, 1)) rfl
theorem dX2_back_9 : decode cX2_back 9 = .ok (.aload_n 0, 1) := decs_at bnc_x21_12 5 (x := (9, .aload_n 0, 1)) rfl
theorem dX2_back_10 : decode cX2_back 10 = .ok (.getfield 18, 3) := decs_at bnc_x21_12 6 (x := (10, .getfield 18, 3)) rfl
theorem dX2_back_13 : decode cX2_back 13 = .ok (.getfield 128, 3) := decs_at bnc_x21_12 7 (x := (13, .getfield 128, 3)) rfl
theorem dX2_back_16 : decode cX2_back 16 = .ok (.ifCond .ne 6, 3) := decs_at bnc_x21_12 8 (x := (16, .ifCond .ne 6, 3)) rfl
theorem dX2_back_19 : decode cX2_back 19 = .ok (.bipush (-3), 2) := decs_at bnc_x21_12 9 (x := (19, .bipush (-3), 2)) rfl
theorem dX2_back_21 : decode cX2_back 21 = .ok (.ireturn, 1) := decs_at bnc_x21_12 10 (x := (21, .ireturn, 1)) rfl
theorem dX2_back_22 : decode cX2_back 22 = .ok (.aload_n 0, 1) := decs_at bnc_x21_12 11 (x := (22, .aload_n 0, 1)) rfl
theorem dX2_back_23 : decode cX2_back 23 = .ok (.invokevirtual 141, 3) := decs_at bnc_x21_12 12 (x := (23, .invokevirtual 141, 3)) rfl
theorem dX2_back_26 : decode cX2_back 26 = .ok (.istore_n 2, 1) := decs_at bnc_x21_12 13 (x := (26, .istore_n 2, 1)) rfl
theorem dX2_back_27 : decode cX2_back 27 = .ok (.iload_n 2, 1) := decs_at bnc_x21_12 14 (x := (27, .iload_n 2, 1)) rfl
theorem dX2_back_28 : decode cX2_back 28 = .ok (.ifCond .ne 8, 3) := decs_at bnc_x21_12 15 (x := (28, .ifCond .ne 8, 3)) rfl
theorem dX2_back_31 : decode cX2_back 31 = .ok (.aload_n 0, 1) := decs_at bnc_x21_12 16 (x := (31, .aload_n 0, 1)) rfl
theorem dX2_back_32 : decode cX2_back 32 = .ok (.invokevirtual 144, 3) := decs_at bnc_x21_12 17 (x := (32, .invokevirtual 144, 3)) rfl
theorem dX2_back_35 : decode cX2_back 35 = .ok (.istore_n 2, 1) := decs_at bnc_x21_12 18 (x := (35, .istore_n 2, 1)) rfl
theorem dX2_back_36 : decode cX2_back 36 = .ok (.iload_n 2, 1) := decs_at bnc_x21_12 19 (x := (36, .iload_n 2, 1)) rfl
theorem dX2_back_37 : decode cX2_back 37 = .ok (.ifCond .eq 5, 3) := decs_at bnc_x21_12 20 (x := (37, .ifCond .eq 5, 3)) rfl
theorem dX2_back_40 : decode cX2_back 40 = .ok (.iload_n 2, 1) := decs_at bnc_x21_12 21 (x := (40, .iload_n 2, 1)) rfl
theorem dX2_back_41 : decode cX2_back 41 = .ok (.ireturn, 1) := decs_at bnc_x21_12 22 (x := (41, .ireturn, 1)) rfl
theorem dX2_back_42 : decode cX2_back 42 = .ok (.aload_n 0, 1) := decs_at bnc_x21_12 23 (x := (42, .aload_n 0, 1)) rfl
theorem bnc_x21_13 : decs cX2_back [(43, .getfield 11, 3), (46, .iload_n 1, 1), (47, .aload_n 0, 1), (48, .getfield 31, 3), (51, .iconst 0, 1), (52, .aaload, 1), (53, .aastore, 1), (54, .aload_n 0, 1), (55, .getfield 147, 3), (58, .ireturn, 1)] = true := by decide +kernel
theorem dX2_back_43 : decode cX2_back 43 = .ok (.getfield 11, 3) := decs_at bnc_x21_13 0 (x := (43, .getfield 11, 3)) rfl
theorem dX2_back_46 : decode cX2_back 46 = .ok (.iload_n 1, 1) := decs_at bnc_x21_13 1 (x := (46, .iload_n 1, 1)) rfl
theorem dX2_back_47 : decode cX2_back 47 = .ok (.aload_n 0, 1) := decs_at bnc_x21_13 2 (x := (47, .aload_n 0, 1)) rfl
theorem dX2_back_48 : decode cX2_back 48 = .ok (.getfield 31, 3) := decs_at bnc_x21_13 3 (x := (48, .getfield 31, 3)) rfl
theorem dX2_back_51 : decode cX2_back 51 = .ok (.iconst 0, 1) := decs_at bnc_x21_13 4 (x := (51, .iconst 0, 1)) rfl
theorem dX2_back_52 : decode cX2_back 52 = .ok (.aaload, 1) := decs_at bnc_x21_13 5 (x := (52, .aaload, 1)) rfl
theorem dX2_back_53 : decode cX2_back 53 = .ok (.aastore, 1) := decs_at bnc_x21_13 6 (x := (53, .aastore, 1)) rfl
theorem dX2_back_54 : decode cX2_back 54 = .ok (.aload_n 0, 1) := decs_at bnc_x21_13 7 (x := (54, .aload_n 0, 1)) rfl
theorem dX2_back_55 : decode cX2_back 55 = .ok (.getfield 147, 3) := decs_at bnc_x21_13 8 (x := (55, .getfield 147, 3)) rfl
theorem dX2_back_58 : decode cX2_back 58 = .ok (.ireturn, 1) := decs_at bnc_x21_13 9 (x := (58, .ireturn, 1)) rfl
set_option maxRecDepth 20000 in
theorem ggX2_equal_X2_isSlot : GoodIn wsX2_equal wsX2_isSlot := goodIn_r _ [7] rfl (by decide +kernel)
set_option maxRecDepth 20000 in
theorem gX2_equal_X2_isSlot : GoodIn wsX2_equal (va_wsS RX2 34 yX2_isSlot wsX2_isSlot) := goodIn_app (goodIn_r _ [4, 5, 6] rfl (by decide +kernel)) ggX2_equal_X2_isSlot
set_option maxRecDepth 20000 in
theorem ggX2_equal_X2_tell : GoodIn wsX2_equal wsX2_tell := goodIn_r _ [11, 12, 13, 14, 15, 16, 6, 17, 18, 19, 20, 21, 22, 23, 24, 25, 26, 27, 28, 29, 30, 31, 32, 33, 34, 35, 36, 37, 38, 39, 40, 41, 42, 43, 44, 45, 46, 47, 48, 49, 50, 51, 52, 53, 54, 55, 56, 57, 58, 59, 60, 61, 75, 76, 77, 78, 66, 67, 68, 69, 70, 71, 72, 73, 74, 79, 80, 81, 82, 83, 84] rfl (by decide +kernel)
set_option maxRecDepth 20000 in
theorem gX2_equal_X2_tell : GoodIn wsX2_equal (wsV RX2 124 RX2 yX2_tell wsX2_tell) := goodIn_app (goodIn_r _ [8, 9, 10, 6] rfl (by decide +kernel)) ggX2_equal_X2_tell
set_option maxRecDepth 20000 in
theorem ggX2_equal_X0_sameAs : GoodIn wsX2_equal wsX0_sameAs := goodIn_r _ [65, 40, 41, 42, 43, 75, 76, 77, 78] rfl (by decide +kernel)
set_option maxRecDepth 20000 in
theorem gX2_equal_X0_sameAs : GoodIn wsX2_equal (wsV RX2 150 RX0 yX0_sameAs wsX0_sameAs) := goodIn_app (goodIn_r _ [62, 63, 64, 38] rfl (by decide +kernel)) ggX2_equal_X0_sameAs
theorem bnc_x21_14 : decs cX2_equal [(0, .iload_n 1, 1), (1, .invokestatic 34, 3), (4, .ifCond .eq 10, 3), (7, .iload_n 2, 1), (8, .invokestatic 34, 3), (11, .ifCond .ne 5, 3), (14, .iconst (-1), 1), (15, .ireturn, 1), (16, .aload_n 0, 1), (17, .getfield 11, 3), (20, .iload_n 1, 1), (21, .aaload, 1), (22, .astore_n 3, 1), (23, .aload_n 0, 1), (24, .getfield 11, 3), (27, .iload_n 2, 1), (28, .aaload, 1), (29, .astore 4, 2), (31, .aload_n 3, 1), (32, .ifnull 15, 3), (35, .aload_n 0, 1), (36, .aload_n 3, 1), (37, .aload_n 0, 1), (38, .getfield 22, 3)] = true := by decide +kernel
theorem dX2_equal_0 : decode cX2_equal 0 = .ok (.iload_n 1, 1) := decs_at bnc_x21_14 0 (x := (0, .iload_n 1, 1)) rfl
theorem dX2_equal_1 : decode cX2_equal 1 = .ok (.invokestatic 34, 3) := decs_at bnc_x21_14 1 (x := (1, .invokestatic 34, 3)) rfl
theorem dX2_equal_4 : decode cX2_equal 4 = .ok (.ifCond .eq 10, 3) := decs_at bnc_x21_14 2 (x := (4, .ifCond .eq 10, 3)) rfl
theorem dX2_equal_7 : decode cX2_equal 7 = .ok (.iload_n 2, 1) := decs_at bnc_x21_14 3 (x := (7, .iload_n 2, 1)) rfl
theorem dX2_equal_8 : decode cX2_equal 8 = .ok (.invokestatic 34, 3) := decs_at bnc_x21_14 4 (x := (8, .invokestatic 34, 3)) rfl
theorem dX2_equal_11 : decode cX2_equal 11 = .ok (.ifCond .ne 5, 3) := decs_at bnc_x21_14 5 (x := (11, .ifCond .ne 5, 3)) rfl
theorem dX2_equal_14 : decode cX2_equal 14 = .ok (.iconst (-1), 1) := decs_at bnc_x21_14 6 (x := (14, .iconst (-1), 1)) rfl
theorem dX2_equal_15 : decode cX2_equal 15 = .ok (.ireturn, 1) := decs_at bnc_x21_14 7 (x := (15, .ireturn, 1)) rfl
theorem dX2_equal_16 : decode cX2_equal 16 = .ok (.aload_n 0, 1) := decs_at bnc_x21_14 8 (x := (16, .aload_n 0, 1)) rfl
theorem dX2_equal_17 : decode cX2_equal 17 = .ok (.getfield 11, 3) := decs_at bnc_x21_14 9 (x := (17, .getfield 11, 3)) rfl
theorem dX2_equal_20 : decode cX2_equal 20 = .ok (.iload_n 1, 1) := decs_at bnc_x21_14 10 (x := (20, .iload_n 1, 1)) rfl
theorem dX2_equal_21 : decode cX2_equal 21 = .ok (.aaload, 1) := decs_at bnc_x21_14 11 (x := (21, .aaload, 1)) rfl
theorem dX2_equal_22 : decode cX2_equal 22 = .ok (.astore_n 3, 1) := decs_at bnc_x21_14 12 (x := (22, .astore_n 3, 1)) rfl
theorem dX2_equal_23 : decode cX2_equal 23 = .ok (.aload_n 0, 1) := decs_at bnc_x21_14 13 (x := (23, .aload_n 0, 1)) rfl
theorem dX2_equal_24 : decode cX2_equal 24 = .ok (.getfield 11, 3) := decs_at bnc_x21_14 14 (x := (24, .getfield 11, 3)) rfl
theorem dX2_equal_27 : decode cX2_equal 27 = .ok (.iload_n 2, 1) := decs_at bnc_x21_14 15 (x := (27, .iload_n 2, 1)) rfl
theorem dX2_equal_28 : decode cX2_equal 28 = .ok (.aaload, 1) := decs_at bnc_x21_14 16 (x := (28, .aaload, 1)) rfl
theorem dX2_equal_29 : decode cX2_equal 29 = .ok (.astore 4, 2) := decs_at bnc_x21_14 17 (x := (29, .astore 4, 2)) rfl
theorem dX2_equal_31 : decode cX2_equal 31 = .ok (.aload_n 3, 1) := decs_at bnc_x21_14 18 (x := (31, .aload_n 3, 1)) rfl
theorem dX2_equal_32 : decode cX2_equal 32 = .ok (.ifnull 15, 3) := decs_at bnc_x21_14 19 (x := (32, .ifnull 15, 3)) rfl
theorem dX2_equal_35 : decode cX2_equal 35 = .ok (.aload_n 0, 1) := decs_at bnc_x21_14 20 (x := (35, .aload_n 0, 1)) rfl
theorem dX2_equal_36 : decode cX2_equal 36 = .ok (.aload_n 3, 1) := decs_at bnc_x21_14 21 (x := (36, .aload_n 3, 1)) rfl
theorem dX2_equal_37 : decode cX2_equal 37 = .ok (.aload_n 0, 1) := decs_at bnc_x21_14 22 (x := (37, .aload_n 0, 1)) rfl
theorem dX2_equal_38 : decode cX2_equal 38 = .ok (.getfield 22, 3) := decs_at bnc_x21_14 23 (x := (38, .getfield 22, 3)) rfl
theorem bnc_x21_15 : decs cX2_equal [(41, .invokevirtual 124, 3), (44, .ifCond .eq 21, 3), (47, .aload 4, 2), (49, .ifnull 19, 3), (52, .aload_n 0, 1), (53, .aload 4, 2), (55, .aload_n 0, 1), (56, .getfield 25, 3), (59, .invokevirtual 124, 3), (62, .ifCond .ne 6, 3), (65, .bipush (-3), 2), (67, .ireturn, 1), (68, .aload_n 3, 1), (69, .ifnull 8, 3), (72, .aload 4, 2), (74, .ifnonnull 15, 3), (77, .aload_n 3, 1), (78, .aload 4, 2), (80, .if_acmp .ne 7, 3), (83, .iconst 1, 1), (84, .goto 4, 3), (87, .iconst 0, 1), (88, .ireturn, 1), (89, .aload_n 0, 1)] = true := by decide +kernel
theorem dX2_equal_41 : decode cX2_equal 41 = .ok (.invokevirtual 124, 3) := decs_at bnc_x21_15 0 (x := (41, .invokevirtual 124, 3)) rfl
theorem dX2_equal_44 : decode cX2_equal 44 = .ok (.ifCond .eq 21, 3) := decs_at bnc_x21_15 1 (x := (44, .ifCond .eq 21, 3)) rfl
theorem dX2_equal_47 : decode cX2_equal 47 = .ok (.aload 4, 2) := decs_at bnc_x21_15 2 (x := (47, .aload 4, 2)) rfl
theorem dX2_equal_49 : decode cX2_equal 49 = .ok (.ifnull 19, 3) := decs_at bnc_x21_15 3 (x := (49, .ifnull 19, 3)) rfl
theorem dX2_equal_52 : decode cX2_equal 52 = .ok (.aload_n 0, 1) := decs_at bnc_x21_15 4 (x := (52, .aload_n 0, 1)) rfl
theorem dX2_equal_53 : decode cX2_equal 53 = .ok (.aload 4, 2) := decs_at bnc_x21_15 5 (x := (53, .aload 4, 2)) rfl
theorem dX2_equal_55 : decode cX2_equal 55 = .ok (.aload_n 0, 1) := decs_at bnc_x21_15 6 (x := (55, .aload_n 0, 1)) rfl
theorem dX2_equal_56 : decode cX2_equal 56 = .ok (.getfield 25, 3) := decs_at bnc_x21_15 7 (x := (56, .getfield 25, 3)) rfl
theorem dX2_equal_59 : decode cX2_equal 59 = .ok (.invokevirtual 124, 3) := decs_at bnc_x21_15 8 (x := (59, .invokevirtual 124, 3)) rfl
theorem dX2_equal_62 : decode cX2_equal 62 = .ok (.ifCond .ne 6, 3) := decs_at bnc_x21_15 9 (x := (62, .ifCond .ne 6, 3)) rfl
theorem dX2_equal_65 : decode cX2_equal 65 = .ok (.bipush (-3), 2) := decs_at bnc_x21_15 10 (x := (65, .bipush (-3), 2)) rfl
theorem dX2_equal_67 : decode cX2_equal 67 = .ok (.ireturn, 1) := decs_at bnc_x21_15 11 (x := (67, .ireturn, 1)) rfl
theorem dX2_equal_68 : decode cX2_equal 68 = .ok (.aload_n 3, 1) := decs_at bnc_x21_15 12 (x := (68, .aload_n 3, 1)) rfl
theorem dX2_equal_69 : decode cX2_equal 69 = .ok (.ifnull 8, 3) := decs_at bnc_x21_15 13 (x := (69, .ifnull 8, 3)) rfl
theorem dX2_equal_72 : decode cX2_equal 72 = .ok (.aload 4, 2) := decs_at bnc_x21_15 14 (x := (72, .aload 4, 2)) rfl
theorem dX2_equal_74 : decode cX2_equal 74 = .ok (.ifnonnull 15, 3) := decs_at bnc_x21_15 15 (x := (74, .ifnonnull 15, 3)) rfl
theorem dX2_equal_77 : decode cX2_equal 77 = .ok (.aload_n 3, 1) := decs_at bnc_x21_15 16 (x := (77, .aload_n 3, 1)) rfl
theorem dX2_equal_78 : decode cX2_equal 78 = .ok (.aload 4, 2) := decs_at bnc_x21_15 17 (x := (78, .aload 4, 2)) rfl
theorem dX2_equal_80 : decode cX2_equal 80 = .ok (.if_acmp .ne 7, 3) := decs_at bnc_x21_15 18 (x := (80, .if_acmp .ne 7, 3)) rfl
theorem dX2_equal_83 : decode cX2_equal 83 = .ok (.iconst 1, 1) := decs_at bnc_x21_15 19 (x := (83, .iconst 1, 1)) rfl
theorem dX2_equal_84 : decode cX2_equal 84 = .ok (.goto 4, 3) := decs_at bnc_x21_15 20 (x := (84, .goto 4, 3)) rfl
theorem dX2_equal_87 : decode cX2_equal 87 = .ok (.iconst 0, 1) := decs_at bnc_x21_15 21 (x := (87, .iconst 0, 1)) rfl
theorem dX2_equal_88 : decode cX2_equal 88 = .ok (.ireturn, 1) := decs_at bnc_x21_15 22 (x := (88, .ireturn, 1)) rfl
theorem dX2_equal_89 : decode cX2_equal 89 = .ok (.aload_n 0, 1) := decs_at bnc_x21_15 23 (x := (89, .aload_n 0, 1)) rfl
theorem bnc_x21_16 : decs cX2_equal [(90, .getfield 22, 3), (93, .aload_n 0, 1), (94, .getfield 25, 3), (97, .invokevirtual 150, 3), (100, .ifCond .eq 7, 3), (103, .iconst 1, 1), (104, .goto 4, 3), (107, .iconst 0, 1), (108, .ireturn, 1)] = true := by decide +kernel
theorem dX2_equal_90 : decode cX2_equal 90 = .ok (.getfield 22, 3) := decs_at bnc_x21_16 0 (x := (90, .getfield 22, 3)) rfl
theorem dX2_equal_93 : decode cX2_equal 93 = .ok (.aload_n 0, 1) := decs_at bnc_x21_16 1 (x := (93, .aload_n 0, 1)) rfl
theorem dX2_equal_94 : decode cX2_equal 94 = .ok (.getfield 25, 3) := decs_at bnc_x21_16 2 (x := (94, .getfield 25, 3)) rfl
theorem dX2_equal_97 : decode cX2_equal 97 = .ok (.invokevirtual 150, 3) := decs_at bnc_x21_16 3 (x := (97, .invokevirtual 150, 3)) rfl
theorem dX2_equal_100 : decode cX2_equal 100 = .ok (.ifCond .eq 7, 3) := decs_at bnc_x21_16 4 (x := (100, .ifCond .eq 7, 3)) rfl
theorem dX2_equal_103 : decode cX2_equal 103 = .ok (.iconst 1, 1) := decs_at bnc_x21_16 5 (x := (103, .iconst 1, 1)) rfl
theorem dX2_equal_104 : decode cX2_equal 104 = .ok (.goto 4, 3) := decs_at bnc_x21_16 6 (x := (104, .goto 4, 3)) rfl
theorem dX2_equal_107 : decode cX2_equal 107 = .ok (.iconst 0, 1) := decs_at bnc_x21_16 7 (x := (107, .iconst 0, 1)) rfl
theorem dX2_equal_108 : decode cX2_equal 108 = .ok (.ireturn, 1) := decs_at bnc_x21_16 8 (x := (108, .ireturn, 1)) rfl
set_option maxRecDepth 20000 in
theorem ggX2_changed_X2_isSlot : GoodIn wsX2_changed wsX2_isSlot := goodIn_r _ [6] rfl (by decide +kernel)
set_option maxRecDepth 20000 in
theorem gX2_changed_X2_isSlot : GoodIn wsX2_changed (va_wsS RX2 34 yX2_isSlot wsX2_isSlot) := goodIn_app (goodIn_r _ [3, 4, 5] rfl (by decide +kernel)) ggX2_changed_X2_isSlot
set_option maxRecDepth 20000 in
theorem ggX2_changed_X2_differ : GoodIn wsX2_changed wsX2_differ := goodIn_r _ [9, 10, 11, 12, 13, 14, 15, 16, 17, 18, 19, 20, 21, 22, 5, 23, 33, 34, 35, 36, 37, 38] rfl (by decide +kernel)
set_option maxRecDepth 20000 in
theorem gX2_changed_X2_differ : GoodIn wsX2_changed (va_wsS RX2 154 yX2_differ wsX2_differ) := goodIn_app (goodIn_r _ [7, 8, 5] rfl (by decide +kernel)) ggX2_changed_X2_differ
theorem bnc_x21_17 : decs cX2_changed [(0, .iload_n 1, 1), (1, .invokestatic 34, 3), (4, .ifCond .eq 14, 3), (7, .iload_n 2, 1), (8, .invokestatic 34, 3), (11, .ifCond .eq 7, 3), (14, .iload_n 3, 1), (15, .ifCond .ge 5, 3), (18, .iconst (-1), 1), (19, .ireturn, 1), (20, .aload_n 0, 1), (21, .getfield 11, 3), (24, .iload_n 1, 1), (25, .aaload, 1), (26, .astore 4, 2), (28, .aload_n 0, 1), (29, .getfield 11, 3), (32, .iload_n 2, 1), (33, .aaload, 1), (34, .astore 5, 2), (36, .aload 4, 2), (38, .ifnull 8, 3), (41, .aload 5, 2), (43, .ifnonnull 6, 3)] = true := by decide +kernel
theorem dX2_changed_0 : decode cX2_changed 0 = .ok (.iload_n 1, 1) := decs_at bnc_x21_17 0 (x := (0, .iload_n 1, 1)) rfl
theorem dX2_changed_1 : decode cX2_changed 1 = .ok (.invokestatic 34, 3) := decs_at bnc_x21_17 1 (x := (1, .invokestatic 34, 3)) rfl
theorem dX2_changed_4 : decode cX2_changed 4 = .ok (.ifCond .eq 14, 3) := decs_at bnc_x21_17 2 (x := (4, .ifCond .eq 14, 3)) rfl
theorem dX2_changed_7 : decode cX2_changed 7 = .ok (.iload_n 2, 1) := decs_at bnc_x21_17 3 (x := (7, .iload_n 2, 1)) rfl
theorem dX2_changed_8 : decode cX2_changed 8 = .ok (.invokestatic 34, 3) := decs_at bnc_x21_17 4 (x := (8, .invokestatic 34, 3)) rfl
theorem dX2_changed_11 : decode cX2_changed 11 = .ok (.ifCond .eq 7, 3) := decs_at bnc_x21_17 5 (x := (11, .ifCond .eq 7, 3)) rfl
theorem dX2_changed_14 : decode cX2_changed 14 = .ok (.iload_n 3, 1) := decs_at bnc_x21_17 6 (x := (14, .iload_n 3, 1)) rfl
theorem dX2_changed_15 : decode cX2_changed 15 = .ok (.ifCond .ge 5, 3) := decs_at bnc_x21_17 7 (x := (15, .ifCond .ge 5, 3)) rfl
theorem dX2_changed_18 : decode cX2_changed 18 = .ok (.iconst (-1), 1) := decs_at bnc_x21_17 8 (x := (18, .iconst (-1), 1)) rfl
theorem dX2_changed_19 : decode cX2_changed 19 = .ok (.ireturn, 1) := decs_at bnc_x21_17 9 (x := (19, .ireturn, 1)) rfl
theorem dX2_changed_20 : decode cX2_changed 20 = .ok (.aload_n 0, 1) := decs_at bnc_x21_17 10 (x := (20, .aload_n 0, 1)) rfl
theorem dX2_changed_21 : decode cX2_changed 21 = .ok (.getfield 11, 3) := decs_at bnc_x21_17 11 (x := (21, .getfield 11, 3)) rfl
theorem dX2_changed_24 : decode cX2_changed 24 = .ok (.iload_n 1, 1) := decs_at bnc_x21_17 12 (x := (24, .iload_n 1, 1)) rfl
theorem dX2_changed_25 : decode cX2_changed 25 = .ok (.aaload, 1) := decs_at bnc_x21_17 13 (x := (25, .aaload, 1)) rfl
theorem dX2_changed_26 : decode cX2_changed 26 = .ok (.astore 4, 2) := decs_at bnc_x21_17 14 (x := (26, .astore 4, 2)) rfl
theorem dX2_changed_28 : decode cX2_changed 28 = .ok (.aload_n 0, 1) := decs_at bnc_x21_17 15 (x := (28, .aload_n 0, 1)) rfl
theorem dX2_changed_29 : decode cX2_changed 29 = .ok (.getfield 11, 3) := decs_at bnc_x21_17 16 (x := (29, .getfield 11, 3)) rfl
theorem dX2_changed_32 : decode cX2_changed 32 = .ok (.iload_n 2, 1) := decs_at bnc_x21_17 17 (x := (32, .iload_n 2, 1)) rfl
theorem dX2_changed_33 : decode cX2_changed 33 = .ok (.aaload, 1) := decs_at bnc_x21_17 18 (x := (33, .aaload, 1)) rfl
theorem dX2_changed_34 : decode cX2_changed 34 = .ok (.astore 5, 2) := decs_at bnc_x21_17 19 (x := (34, .astore 5, 2)) rfl
theorem dX2_changed_36 : decode cX2_changed 36 = .ok (.aload 4, 2) := decs_at bnc_x21_17 20 (x := (36, .aload 4, 2)) rfl
theorem dX2_changed_38 : decode cX2_changed 38 = .ok (.ifnull 8, 3) := decs_at bnc_x21_17 21 (x := (38, .ifnull 8, 3)) rfl
theorem dX2_changed_41 : decode cX2_changed 41 = .ok (.aload 5, 2) := decs_at bnc_x21_17 22 (x := (41, .aload 5, 2)) rfl
theorem dX2_changed_43 : decode cX2_changed 43 = .ok (.ifnonnull 6, 3) := decs_at bnc_x21_17 23 (x := (43, .ifnonnull 6, 3)) rfl
theorem bnc_x21_18 : decs cX2_changed [(46, .bipush (-11), 2), (48, .ireturn, 1), (49, .aload 4, 2), (51, .getfield 45, 3), (54, .aload 5, 2), (56, .getfield 45, 3), (59, .if_icmp .eq 6, 3), (62, .bipush (-14), 2), (64, .ireturn, 1), (65, .iconst 0, 1), (66, .istore 6, 2), (68, .iconst 0, 1), (69, .istore 7, 2), (71, .iload 7, 2), (73, .bipush 17, 2), (75, .if_icmp .ge 33, 3), (78, .aload 4, 2), (80, .aload 5, 2), (82, .iload 7, 2), (84, .invokestatic 154, 3), (87, .ifCond .eq 15, 3), (90, .iload 6, 2), (92, .iload_n 3, 1), (93, .if_icmp .ne 6, 3)] = true := by decide +kernel
theorem dX2_changed_46 : decode cX2_changed 46 = .ok (.bipush (-11), 2) := decs_at bnc_x21_18 0 (x := (46, .bipush (-11), 2)) rfl
theorem dX2_changed_48 : decode cX2_changed 48 = .ok (.ireturn, 1) := decs_at bnc_x21_18 1 (x := (48, .ireturn, 1)) rfl
theorem dX2_changed_49 : decode cX2_changed 49 = .ok (.aload 4, 2) := decs_at bnc_x21_18 2 (x := (49, .aload 4, 2)) rfl
theorem dX2_changed_51 : decode cX2_changed 51 = .ok (.getfield 45, 3) := decs_at bnc_x21_18 3 (x := (51, .getfield 45, 3)) rfl
theorem dX2_changed_54 : decode cX2_changed 54 = .ok (.aload 5, 2) := decs_at bnc_x21_18 4 (x := (54, .aload 5, 2)) rfl
theorem dX2_changed_56 : decode cX2_changed 56 = .ok (.getfield 45, 3) := decs_at bnc_x21_18 5 (x := (56, .getfield 45, 3)) rfl
theorem dX2_changed_59 : decode cX2_changed 59 = .ok (.if_icmp .eq 6, 3) := decs_at bnc_x21_18 6 (x := (59, .if_icmp .eq 6, 3)) rfl
theorem dX2_changed_62 : decode cX2_changed 62 = .ok (.bipush (-14), 2) := decs_at bnc_x21_18 7 (x := (62, .bipush (-14), 2)) rfl
theorem dX2_changed_64 : decode cX2_changed 64 = .ok (.ireturn, 1) := decs_at bnc_x21_18 8 (x := (64, .ireturn, 1)) rfl
theorem dX2_changed_65 : decode cX2_changed 65 = .ok (.iconst 0, 1) := decs_at bnc_x21_18 9 (x := (65, .iconst 0, 1)) rfl
theorem dX2_changed_66 : decode cX2_changed 66 = .ok (.istore 6, 2) := decs_at bnc_x21_18 10 (x := (66, .istore 6, 2)) rfl
theorem dX2_changed_68 : decode cX2_changed 68 = .ok (.iconst 0, 1) := decs_at bnc_x21_18 11 (x := (68, .iconst 0, 1)) rfl
theorem dX2_changed_69 : decode cX2_changed 69 = .ok (.istore 7, 2) := decs_at bnc_x21_18 12 (x := (69, .istore 7, 2)) rfl
theorem dX2_changed_71 : decode cX2_changed 71 = .ok (.iload 7, 2) := decs_at bnc_x21_18 13 (x := (71, .iload 7, 2)) rfl
theorem dX2_changed_73 : decode cX2_changed 73 = .ok (.bipush 17, 2) := decs_at bnc_x21_18 14 (x := (73, .bipush 17, 2)) rfl
theorem dX2_changed_75 : decode cX2_changed 75 = .ok (.if_icmp .ge 33, 3) := decs_at bnc_x21_18 15 (x := (75, .if_icmp .ge 33, 3)) rfl
theorem dX2_changed_78 : decode cX2_changed 78 = .ok (.aload 4, 2) := decs_at bnc_x21_18 16 (x := (78, .aload 4, 2)) rfl
theorem dX2_changed_80 : decode cX2_changed 80 = .ok (.aload 5, 2) := decs_at bnc_x21_18 17 (x := (80, .aload 5, 2)) rfl
theorem dX2_changed_82 : decode cX2_changed 82 = .ok (.iload 7, 2) := decs_at bnc_x21_18 18 (x := (82, .iload 7, 2)) rfl
theorem dX2_changed_84 : decode cX2_changed 84 = .ok (.invokestatic 154, 3) := decs_at bnc_x21_18 19 (x := (84, .invokestatic 154, 3)) rfl
theorem dX2_changed_87 : decode cX2_changed 87 = .ok (.ifCond .eq 15, 3) := decs_at bnc_x21_18 20 (x := (87, .ifCond .eq 15, 3)) rfl
theorem dX2_changed_90 : decode cX2_changed 90 = .ok (.iload 6, 2) := decs_at bnc_x21_18 21 (x := (90, .iload 6, 2)) rfl
theorem dX2_changed_92 : decode cX2_changed 92 = .ok (.iload_n 3, 1) := decs_at bnc_x21_18 22 (x := (92, .iload_n 3, 1)) rfl
theorem dX2_changed_93 : decode cX2_changed 93 = .ok (.if_icmp .ne 6, 3) := decs_at bnc_x21_18 23 (x := (93, .if_icmp .ne 6, 3)) rfl
theorem bnc_x21_19 : decs cX2_changed [(96, .iload 7, 2), (98, .ireturn, 1), (99, .iinc 6 1, 3), (102, .iinc 7 1, 3), (105, .goto (-34), 3), (108, .bipush (-4), 2), (110, .ireturn, 1)] = true := by decide +kernel
theorem dX2_changed_96 : decode cX2_changed 96 = .ok (.iload 7, 2) := decs_at bnc_x21_19 0 (x := (96, .iload 7, 2)) rfl
theorem dX2_changed_98 : decode cX2_changed 98 = .ok (.ireturn, 1) := decs_at bnc_x21_19 1 (x := (98, .ireturn, 1)) rfl
theorem dX2_changed_99 : decode cX2_changed 99 = .ok (.iinc 6 1, 3) := decs_at bnc_x21_19 2 (x := (99, .iinc 6 1, 3)) rfl
theorem dX2_changed_102 : decode cX2_changed 102 = .ok (.iinc 7 1, 3) := decs_at bnc_x21_19 3 (x := (102, .iinc 7 1, 3)) rfl
theorem dX2_changed_105 : decode cX2_changed 105 = .ok (.goto (-34), 3) := decs_at bnc_x21_19 4 (x := (105, .goto (-34), 3)) rfl
theorem dX2_changed_108 : decode cX2_changed 108 = .ok (.bipush (-4), 2) := decs_at bnc_x21_19 5 (x := (108, .bipush (-4), 2)) rfl
theorem dX2_changed_110 : decode cX2_changed 110 = .ok (.ireturn, 1) := decs_at bnc_x21_19 6 (x := (110, .ireturn, 1)) rfl
theorem bnc_x21_20 : decs cX2_isSlot [(0, .iload_n 0, 1), (1, .ifCond .lt 13, 3), (4, .iload_n 0, 1), (5, .bipush 12, 2), (7, .if_icmp .ge 7, 3), (10, .iconst 1, 1), (11, .goto 4, 3), (14, .iconst 0, 1), (15, .ireturn, 1)] = true := by decide +kernel
theorem dX2_isSlot_0 : decode cX2_isSlot 0 = .ok (.iload_n 0, 1) := decs_at bnc_x21_20 0 (x := (0, .iload_n 0, 1)) rfl
theorem dX2_isSlot_1 : decode cX2_isSlot 1 = .ok (.ifCond .lt 13, 3) := decs_at bnc_x21_20 1 (x := (1, .ifCond .lt 13, 3)) rfl
theorem dX2_isSlot_4 : decode cX2_isSlot 4 = .ok (.iload_n 0, 1) := decs_at bnc_x21_20 2 (x := (4, .iload_n 0, 1)) rfl
theorem dX2_isSlot_5 : decode cX2_isSlot 5 = .ok (.bipush 12, 2) := decs_at bnc_x21_20 3 (x := (5, .bipush 12, 2)) rfl
theorem dX2_isSlot_7 : decode cX2_isSlot 7 = .ok (.if_icmp .ge 7, 3) := decs_at bnc_x21_20 4 (x := (7, .if_icmp .ge 7, 3)) rfl
theorem dX2_isSlot_10 : decode cX2_isSlot 10 = .ok (.iconst 1, 1) := decs_at bnc_x21_20 5 (x := (10, .iconst 1, 1)) rfl
theorem dX2_isSlot_11 : decode cX2_isSlot 11 = .ok (.goto 4, 3) := decs_at bnc_x21_20 6 (x := (11, .goto 4, 3)) rfl
theorem dX2_isSlot_14 : decode cX2_isSlot 14 = .ok (.iconst 0, 1) := decs_at bnc_x21_20 7 (x := (14, .iconst 0, 1)) rfl
theorem dX2_isSlot_15 : decode cX2_isSlot 15 = .ok (.ireturn, 1) := decs_at bnc_x21_20 8 (x := (15, .ireturn, 1)) rfl
theorem bnc_x21_21 : decs cX2_isField [(0, .iload_n 0, 1), (1, .ifCond .lt 13, 3), (4, .iload_n 0, 1), (5, .bipush 17, 2), (7, .if_icmp .ge 7, 3), (10, .iconst 1, 1), (11, .goto 4, 3), (14, .iconst 0, 1), (15, .ireturn, 1)] = true := by decide +kernel
theorem dX2_isField_0 : decode cX2_isField 0 = .ok (.iload_n 0, 1) := decs_at bnc_x21_21 0 (x := (0, .iload_n 0, 1)) rfl
theorem dX2_isField_1 : decode cX2_isField 1 = .ok (.ifCond .lt 13, 3) := decs_at bnc_x21_21 1 (x := (1, .ifCond .lt 13, 3)) rfl
theorem dX2_isField_4 : decode cX2_isField 4 = .ok (.iload_n 0, 1) := decs_at bnc_x21_21 2 (x := (4, .iload_n 0, 1)) rfl
theorem dX2_isField_5 : decode cX2_isField 5 = .ok (.bipush 17, 2) := decs_at bnc_x21_21 3 (x := (5, .bipush 17, 2)) rfl
theorem dX2_isField_7 : decode cX2_isField 7 = .ok (.if_icmp .ge 7, 3) := decs_at bnc_x21_21 4 (x := (7, .if_icmp .ge 7, 3)) rfl
theorem dX2_isField_10 : decode cX2_isField 10 = .ok (.iconst 1, 1) := decs_at bnc_x21_21 5 (x := (10, .iconst 1, 1)) rfl
theorem dX2_isField_11 : decode cX2_isField 11 = .ok (.goto 4, 3) := decs_at bnc_x21_21 6 (x := (11, .goto 4, 3)) rfl
theorem dX2_isField_14 : decode cX2_isField 14 = .ok (.iconst 0, 1) := decs_at bnc_x21_21 7 (x := (14, .iconst 0, 1)) rfl
theorem dX2_isField_15 : decode cX2_isField 15 = .ok (.ireturn, 1) := decs_at bnc_x21_21 8 (x := (15, .ireturn, 1)) rfl
set_option maxRecDepth 20000 in
theorem ggX2_isLinkField_X2_isField : GoodIn wsX2_isLinkField wsX2_isField := goodIn_r _ [5] rfl (by decide +kernel)
set_option maxRecDepth 20000 in
theorem gX2_isLinkField_X2_isField : GoodIn wsX2_isLinkField (va_wsS RX2 158 yX2_isField wsX2_isField) := goodIn_app (goodIn_r _ [2, 3, 4] rfl (by decide +kernel)) ggX2_isLinkField_X2_isField
theorem bnc_x21_22 : decs cX2_isLinkField [(0, .iload_n 0, 1), (1, .invokestatic 158, 3), (4, .ifCond .eq 17, 3), (7, .getstatic 161, 3), (10, .iload_n 0, 1), (11, .iaload, 1), (12, .bipush 8, 2), (14, .if_icmp .ne 7, 3), (17, .iconst 1, 1), (18, .goto 4, 3), (21, .iconst 0, 1), (22, .ireturn, 1)] = true := by decide +kernel
theorem dX2_isLinkField_0 : decode cX2_isLinkField 0 = .ok (.iload_n 0, 1) := decs_at bnc_x21_22 0 (x := (0, .iload_n 0, 1)) rfl
theorem dX2_isLinkField_1 : decode cX2_isLinkField 1 = .ok (.invokestatic 158, 3) := decs_at bnc_x21_22 1 (x := (1, .invokestatic 158, 3)) rfl
theorem dX2_isLinkField_4 : decode cX2_isLinkField 4 = .ok (.ifCond .eq 17, 3) := decs_at bnc_x21_22 2 (x := (4, .ifCond .eq 17, 3)) rfl
theorem dX2_isLinkField_7 : decode cX2_isLinkField 7 = .ok (.getstatic 161, 3) := decs_at bnc_x21_22 3 (x := (7, .getstatic 161, 3)) rfl
theorem dX2_isLinkField_10 : decode cX2_isLinkField 10 = .ok (.iload_n 0, 1) := decs_at bnc_x21_22 4 (x := (10, .iload_n 0, 1)) rfl
theorem dX2_isLinkField_11 : decode cX2_isLinkField 11 = .ok (.iaload, 1) := decs_at bnc_x21_22 5 (x := (11, .iaload, 1)) rfl
theorem dX2_isLinkField_12 : decode cX2_isLinkField 12 = .ok (.bipush 8, 2) := decs_at bnc_x21_22 6 (x := (12, .bipush 8, 2)) rfl
theorem dX2_isLinkField_14 : decode cX2_isLinkField 14 = .ok (.if_icmp .ne 7, 3) := decs_at bnc_x21_22 7 (x := (14, .if_icmp .ne 7, 3)) rfl
theorem dX2_isLinkField_17 : decode cX2_isLinkField 17 = .ok (.iconst 1, 1) := decs_at bnc_x21_22 8 (x := (17, .iconst 1, 1)) rfl
theorem dX2_isLinkField_18 : decode cX2_isLinkField 18 = .ok (.goto 4, 3) := decs_at bnc_x21_22 9 (x := (18, .goto 4, 3)) rfl
theorem dX2_isLinkField_21 : decode cX2_isLinkField 21 = .ok (.iconst 0, 1) := decs_at bnc_x21_22 10 (x := (21, .iconst 0, 1)) rfl
theorem dX2_isLinkField_22 : decode cX2_isLinkField 22 = .ok (.ireturn, 1) := decs_at bnc_x21_22 11 (x := (22, .ireturn, 1)) rfl
set_option maxRecDepth 20000 in
theorem ggX2_isValueField_X2_isField : GoodIn wsX2_isValueField wsX2_isField := goodIn_r _ [5] rfl (by decide +kernel)
set_option maxRecDepth 20000 in
theorem gX2_isValueField_X2_isField : GoodIn wsX2_isValueField (va_wsS RX2 158 yX2_isField wsX2_isField) := goodIn_app (goodIn_r _ [2, 3, 4] rfl (by decide +kernel)) ggX2_isValueField_X2_isField
theorem bnc_x21_23 : decs cX2_isValueField [(0, .iload_n 0, 1), (1, .invokestatic 158, 3), (4, .ifCond .eq 27, 3), (7, .getstatic 161, 3), (10, .iload_n 0, 1), (11, .iaload, 1), (12, .bipush 8, 2), (14, .if_icmp .eq 17, 3), (17, .getstatic 161, 3), (20, .iload_n 0, 1), (21, .iaload, 1), (22, .bipush 9, 2), (24, .if_icmp .eq 7, 3), (27, .iconst 1, 1), (28, .goto 4, 3), (31, .iconst 0, 1), (32, .ireturn, 1)] = true := by decide +kernel
theorem dX2_isValueField_0 : decode cX2_isValueField 0 = .ok (.iload_n 0, 1) := decs_at bnc_x21_23 0 (x := (0, .iload_n 0, 1)) rfl
theorem dX2_isValueField_1 : decode cX2_isValueField 1 = .ok (.invokestatic 158, 3) := decs_at bnc_x21_23 1 (x := (1, .invokestatic 158, 3)) rfl
theorem dX2_isValueField_4 : decode cX2_isValueField 4 = .ok (.ifCond .eq 27, 3) := decs_at bnc_x21_23 2 (x := (4, .ifCond .eq 27, 3)) rfl
theorem dX2_isValueField_7 : decode cX2_isValueField 7 = .ok (.getstatic 161, 3) := decs_at bnc_x21_23 3 (x := (7, .getstatic 161, 3)) rfl
theorem dX2_isValueField_10 : decode cX2_isValueField 10 = .ok (.iload_n 0, 1) := decs_at bnc_x21_23 4 (x := (10, .iload_n 0, 1)) rfl
theorem dX2_isValueField_11 : decode cX2_isValueField 11 = .ok (.iaload, 1) := decs_at bnc_x21_23 5 (x := (11, .iaload, 1)) rfl
theorem dX2_isValueField_12 : decode cX2_isValueField 12 = .ok (.bipush 8, 2) := decs_at bnc_x21_23 6 (x := (12, .bipush 8, 2)) rfl
theorem dX2_isValueField_14 : decode cX2_isValueField 14 = .ok (.if_icmp .eq 17, 3) := decs_at bnc_x21_23 7 (x := (14, .if_icmp .eq 17, 3)) rfl
theorem dX2_isValueField_17 : decode cX2_isValueField 17 = .ok (.getstatic 161, 3) := decs_at bnc_x21_23 8 (x := (17, .getstatic 161, 3)) rfl
theorem dX2_isValueField_20 : decode cX2_isValueField 20 = .ok (.iload_n 0, 1) := decs_at bnc_x21_23 9 (x := (20, .iload_n 0, 1)) rfl
theorem dX2_isValueField_21 : decode cX2_isValueField 21 = .ok (.iaload, 1) := decs_at bnc_x21_23 10 (x := (21, .iaload, 1)) rfl
theorem dX2_isValueField_22 : decode cX2_isValueField 22 = .ok (.bipush 9, 2) := decs_at bnc_x21_23 11 (x := (22, .bipush 9, 2)) rfl
theorem dX2_isValueField_24 : decode cX2_isValueField 24 = .ok (.if_icmp .eq 7, 3) := decs_at bnc_x21_23 12 (x := (24, .if_icmp .eq 7, 3)) rfl
theorem dX2_isValueField_27 : decode cX2_isValueField 27 = .ok (.iconst 1, 1) := decs_at bnc_x21_23 13 (x := (27, .iconst 1, 1)) rfl
theorem dX2_isValueField_28 : decode cX2_isValueField 28 = .ok (.goto 4, 3) := decs_at bnc_x21_23 14 (x := (28, .goto 4, 3)) rfl
theorem dX2_isValueField_31 : decode cX2_isValueField 31 = .ok (.iconst 0, 1) := decs_at bnc_x21_23 15 (x := (31, .iconst 0, 1)) rfl
theorem dX2_isValueField_32 : decode cX2_isValueField 32 = .ok (.ireturn, 1) := decs_at bnc_x21_23 16 (x := (32, .ireturn, 1)) rfl
theorem bnc_x21_24 : decs cX2_isFinal [(0, .iload_n 0, 1), (1, .bipush 13, 2), (3, .if_icmp .eq 9, 3), (6, .iload_n 0, 1), (7, .bipush 16, 2), (9, .if_icmp .ne 7, 3), (12, .iconst 1, 1), (13, .goto 4, 3), (16, .iconst 0, 1), (17, .ireturn, 1)] = true := by decide +kernel
theorem dX2_isFinal_0 : decode cX2_isFinal 0 = .ok (.iload_n 0, 1) := decs_at bnc_x21_24 0 (x := (0, .iload_n 0, 1)) rfl
theorem dX2_isFinal_1 : decode cX2_isFinal 1 = .ok (.bipush 13, 2) := decs_at bnc_x21_24 1 (x := (1, .bipush 13, 2)) rfl
theorem dX2_isFinal_3 : decode cX2_isFinal 3 = .ok (.if_icmp .eq 9, 3) := decs_at bnc_x21_24 2 (x := (3, .if_icmp .eq 9, 3)) rfl
theorem dX2_isFinal_6 : decode cX2_isFinal 6 = .ok (.iload_n 0, 1) := decs_at bnc_x21_24 3 (x := (6, .iload_n 0, 1)) rfl
theorem dX2_isFinal_7 : decode cX2_isFinal 7 = .ok (.bipush 16, 2) := decs_at bnc_x21_24 4 (x := (7, .bipush 16, 2)) rfl
theorem dX2_isFinal_9 : decode cX2_isFinal 9 = .ok (.if_icmp .ne 7, 3) := decs_at bnc_x21_24 5 (x := (9, .if_icmp .ne 7, 3)) rfl
theorem dX2_isFinal_12 : decode cX2_isFinal 12 = .ok (.iconst 1, 1) := decs_at bnc_x21_24 6 (x := (12, .iconst 1, 1)) rfl
theorem dX2_isFinal_13 : decode cX2_isFinal 13 = .ok (.goto 4, 3) := decs_at bnc_x21_24 7 (x := (13, .goto 4, 3)) rfl
theorem dX2_isFinal_16 : decode cX2_isFinal 16 = .ok (.iconst 0, 1) := decs_at bnc_x21_24 8 (x := (16, .iconst 0, 1)) rfl
theorem dX2_isFinal_17 : decode cX2_isFinal 17 = .ok (.ireturn, 1) := decs_at bnc_x21_24 9 (x := (17, .ireturn, 1)) rfl
theorem bnc_x21_25 : decs cX2_makerTakes [(0, .iload_n 0, 1), (1, .iconst 2, 1), (2, .if_icmp .ne 14, 3), (5, .iload_n 1, 1), (6, .ifCond .lt 14, 3), (9, .iload_n 1, 1), (10, .sipush 1000, 3), (13, .if_icmp .gt 7, 3), (16, .iconst 1, 1), (17, .goto 4, 3), (20, .iconst 0, 1), (21, .ireturn, 1)] = true := by decide +kernel
theorem dX2_makerTakes_0 : decode cX2_makerTakes 0 = .ok (.iload_n 0, 1) := decs_at bnc_x21_25 0 (x := (0, .iload_n 0, 1)) rfl
theorem dX2_makerTakes_1 : decode cX2_makerTakes 1 = .ok (.iconst 2, 1) := decs_at bnc_x21_25 1 (x := (1, .iconst 2, 1)) rfl
theorem dX2_makerTakes_2 : decode cX2_makerTakes 2 = .ok (.if_icmp .ne 14, 3) := decs_at bnc_x21_25 2 (x := (2, .if_icmp .ne 14, 3)) rfl
theorem dX2_makerTakes_5 : decode cX2_makerTakes 5 = .ok (.iload_n 1, 1) := decs_at bnc_x21_25 3 (x := (5, .iload_n 1, 1)) rfl
theorem dX2_makerTakes_6 : decode cX2_makerTakes 6 = .ok (.ifCond .lt 14, 3) := decs_at bnc_x21_25 4 (x := (6, .ifCond .lt 14, 3)) rfl
theorem dX2_makerTakes_9 : decode cX2_makerTakes 9 = .ok (.iload_n 1, 1) := decs_at bnc_x21_25 5 (x := (9, .iload_n 1, 1)) rfl
theorem dX2_makerTakes_10 : decode cX2_makerTakes 10 = .ok (.sipush 1000, 3) := decs_at bnc_x21_25 6 (x := (10, .sipush 1000, 3)) rfl
theorem dX2_makerTakes_13 : decode cX2_makerTakes 13 = .ok (.if_icmp .gt 7, 3) := decs_at bnc_x21_25 7 (x := (13, .if_icmp .gt 7, 3)) rfl
theorem dX2_makerTakes_16 : decode cX2_makerTakes 16 = .ok (.iconst 1, 1) := decs_at bnc_x21_25 8 (x := (16, .iconst 1, 1)) rfl
theorem dX2_makerTakes_17 : decode cX2_makerTakes 17 = .ok (.goto 4, 3) := decs_at bnc_x21_25 9 (x := (17, .goto 4, 3)) rfl
theorem dX2_makerTakes_20 : decode cX2_makerTakes 20 = .ok (.iconst 0, 1) := decs_at bnc_x21_25 10 (x := (20, .iconst 0, 1)) rfl
theorem dX2_makerTakes_21 : decode cX2_makerTakes 21 = .ok (.ireturn, 1) := decs_at bnc_x21_25 11 (x := (21, .ireturn, 1)) rfl
theorem bnc_x21_26 : decs cX2_wantedIn [(0, .iload_n 0, 1), (1, .bipush 8, 2), (3, .if_icmp .ne 5, 3), (6, .iconst 0, 1), (7, .ireturn, 1), (8, .iload_n 0, 1), (9, .bipush 11, 2), (11, .if_icmp .ne 7, 3), (14, .iconst 1, 1), (15, .goto 4, 3), (18, .iconst 5, 1), (19, .ireturn, 1)] = true := by decide +kernel
theorem dX2_wantedIn_0 : decode cX2_wantedIn 0 = .ok (.iload_n 0, 1) := decs_at bnc_x21_26 0 (x := (0, .iload_n 0, 1)) rfl
theorem dX2_wantedIn_1 : decode cX2_wantedIn 1 = .ok (.bipush 8, 2) := decs_at bnc_x21_26 1 (x := (1, .bipush 8, 2)) rfl
theorem dX2_wantedIn_3 : decode cX2_wantedIn 3 = .ok (.if_icmp .ne 5, 3) := decs_at bnc_x21_26 2 (x := (3, .if_icmp .ne 5, 3)) rfl
theorem dX2_wantedIn_6 : decode cX2_wantedIn 6 = .ok (.iconst 0, 1) := decs_at bnc_x21_26 3 (x := (6, .iconst 0, 1)) rfl
theorem dX2_wantedIn_7 : decode cX2_wantedIn 7 = .ok (.ireturn, 1) := decs_at bnc_x21_26 4 (x := (7, .ireturn, 1)) rfl
theorem dX2_wantedIn_8 : decode cX2_wantedIn 8 = .ok (.iload_n 0, 1) := decs_at bnc_x21_26 5 (x := (8, .iload_n 0, 1)) rfl
theorem dX2_wantedIn_9 : decode cX2_wantedIn 9 = .ok (.bipush 11, 2) := decs_at bnc_x21_26 6 (x := (9, .bipush 11, 2)) rfl
theorem dX2_wantedIn_11 : decode cX2_wantedIn 11 = .ok (.if_icmp .ne 7, 3) := decs_at bnc_x21_26 7 (x := (11, .if_icmp .ne 7, 3)) rfl
theorem dX2_wantedIn_14 : decode cX2_wantedIn 14 = .ok (.iconst 1, 1) := decs_at bnc_x21_26 8 (x := (14, .iconst 1, 1)) rfl
theorem dX2_wantedIn_15 : decode cX2_wantedIn 15 = .ok (.goto 4, 3) := decs_at bnc_x21_26 9 (x := (15, .goto 4, 3)) rfl
theorem dX2_wantedIn_18 : decode cX2_wantedIn 18 = .ok (.iconst 5, 1) := decs_at bnc_x21_26 10 (x := (18, .iconst 5, 1)) rfl
theorem dX2_wantedIn_19 : decode cX2_wantedIn 19 = .ok (.ireturn, 1) := decs_at bnc_x21_26 11 (x := (19, .ireturn, 1)) rfl
set_option maxRecDepth 20000 in
theorem ggX2_failureAs_X1_isOf : GoodIn wsX2_failureAs wsX1_isOf := goodIn_r _ [5, 6, 7, 8, 9, 10, 11, 12] rfl (by decide +kernel)
set_option maxRecDepth 20000 in
theorem gX2_failureAs_X1_isOf : GoodIn wsX2_failureAs (wsV RX2 49 RX1 yX1_isOf wsX1_isOf) := goodIn_app (goodIn_r _ [1, 2, 3, 4] rfl (by decide +kernel)) ggX2_failureAs_X1_isOf
theorem bnc_x21_27 : decs cX2_failureAs [(0, .aload_n 0, 1), (1, .ifnonnull 6, 3), (4, .bipush (-11), 2), (6, .ireturn, 1), (7, .aload_n 0, 1), (8, .iload_n 1, 1), (9, .invokevirtual 49, 3), (12, .ifCond .eq 7, 3), (15, .iconst 0, 1), (16, .goto 5, 3), (19, .bipush (-14), 2), (21, .ireturn, 1)] = true := by decide +kernel
theorem dX2_failureAs_0 : decode cX2_failureAs 0 = .ok (.aload_n 0, 1) := decs_at bnc_x21_27 0 (x := (0, .aload_n 0, 1)) rfl
theorem dX2_failureAs_1 : decode cX2_failureAs 1 = .ok (.ifnonnull 6, 3) := decs_at bnc_x21_27 1 (x := (1, .ifnonnull 6, 3)) rfl
theorem dX2_failureAs_4 : decode cX2_failureAs 4 = .ok (.bipush (-11), 2) := decs_at bnc_x21_27 2 (x := (4, .bipush (-11), 2)) rfl
theorem dX2_failureAs_6 : decode cX2_failureAs 6 = .ok (.ireturn, 1) := decs_at bnc_x21_27 3 (x := (6, .ireturn, 1)) rfl
theorem dX2_failureAs_7 : decode cX2_failureAs 7 = .ok (.aload_n 0, 1) := decs_at bnc_x21_27 4 (x := (7, .aload_n 0, 1)) rfl
theorem dX2_failureAs_8 : decode cX2_failureAs 8 = .ok (.iload_n 1, 1) := decs_at bnc_x21_27 5 (x := (8, .iload_n 1, 1)) rfl
theorem dX2_failureAs_9 : decode cX2_failureAs 9 = .ok (.invokevirtual 49, 3) := decs_at bnc_x21_27 6 (x := (9, .invokevirtual 49, 3)) rfl
theorem dX2_failureAs_12 : decode cX2_failureAs 12 = .ok (.ifCond .eq 7, 3) := decs_at bnc_x21_27 7 (x := (12, .ifCond .eq 7, 3)) rfl
theorem dX2_failureAs_15 : decode cX2_failureAs 15 = .ok (.iconst 0, 1) := decs_at bnc_x21_27 8 (x := (15, .iconst 0, 1)) rfl
theorem dX2_failureAs_16 : decode cX2_failureAs 16 = .ok (.goto 5, 3) := decs_at bnc_x21_27 9 (x := (16, .goto 5, 3)) rfl
theorem dX2_failureAs_19 : decode cX2_failureAs 19 = .ok (.bipush (-14), 2) := decs_at bnc_x21_27 10 (x := (19, .bipush (-14), 2)) rfl
theorem dX2_failureAs_21 : decode cX2_failureAs 21 = .ok (.ireturn, 1) := decs_at bnc_x21_27 11 (x := (21, .ireturn, 1)) rfl
set_option maxRecDepth 20000 in
theorem ggX2_failureOfRow_X2_failureAs : GoodIn wsX2_failureOfRow wsX2_failureAs := goodIn_r _ [5, 6, 7, 8, 9, 10, 11, 12, 13, 14, 15, 16, 17] rfl (by decide +kernel)
set_option maxRecDepth 20000 in
theorem gX2_failureOfRow_X2_failureAs : GoodIn wsX2_failureOfRow (va_wsS RX2 61 yX2_failureAs wsX2_failureAs) := goodIn_app (goodIn_r _ [2, 3, 4] rfl (by decide +kernel)) ggX2_failureOfRow_X2_failureAs
theorem bnc_x21_28 : decs cX2_failureOfRow [(0, .aload_n 0, 1), (1, .iconst 0, 1), (2, .invokestatic 61, 3), (5, .istore_n 1, 1), (6, .iload_n 1, 1), (7, .ifCond .eq 5, 3), (10, .iload_n 1, 1), (11, .ireturn, 1), (12, .aload_n 0, 1), (13, .getfield 91, 3), (16, .ifnonnull 8, 3), (19, .bipush (-11), 2), (21, .goto 4, 3), (24, .iconst 0, 1), (25, .ireturn, 1)] = true := by decide +kernel
theorem dX2_failureOfRow_0 : decode cX2_failureOfRow 0 = .ok (.aload_n 0, 1) := decs_at bnc_x21_28 0 (x := (0, .aload_n 0, 1)) rfl
theorem dX2_failureOfRow_1 : decode cX2_failureOfRow 1 = .ok (.iconst 0, 1) := decs_at bnc_x21_28 1 (x := (1, .iconst 0, 1)) rfl
theorem dX2_failureOfRow_2 : decode cX2_failureOfRow 2 = .ok (.invokestatic 61, 3) := decs_at bnc_x21_28 2 (x := (2, .invokestatic 61, 3)) rfl
theorem dX2_failureOfRow_5 : decode cX2_failureOfRow 5 = .ok (.istore_n 1, 1) := decs_at bnc_x21_28 3 (x := (5, .istore_n 1, 1)) rfl
theorem dX2_failureOfRow_6 : decode cX2_failureOfRow 6 = .ok (.iload_n 1, 1) := decs_at bnc_x21_28 4 (x := (6, .iload_n 1, 1)) rfl
theorem dX2_failureOfRow_7 : decode cX2_failureOfRow 7 = .ok (.ifCond .eq 5, 3) := decs_at bnc_x21_28 5 (x := (7, .ifCond .eq 5, 3)) rfl
theorem dX2_failureOfRow_10 : decode cX2_failureOfRow 10 = .ok (.iload_n 1, 1) := decs_at bnc_x21_28 6 (x := (10, .iload_n 1, 1)) rfl
theorem dX2_failureOfRow_11 : decode cX2_failureOfRow 11 = .ok (.ireturn, 1) := decs_at bnc_x21_28 7 (x := (11, .ireturn, 1)) rfl
theorem dX2_failureOfRow_12 : decode cX2_failureOfRow 12 = .ok (.aload_n 0, 1) := decs_at bnc_x21_28 8 (x := (12, .aload_n 0, 1)) rfl
theorem dX2_failureOfRow_13 : decode cX2_failureOfRow 13 = .ok (.getfield 91, 3) := decs_at bnc_x21_28 9 (x := (13, .getfield 91, 3)) rfl
theorem dX2_failureOfRow_16 : decode cX2_failureOfRow 16 = .ok (.ifnonnull 8, 3) := decs_at bnc_x21_28 10 (x := (16, .ifnonnull 8, 3)) rfl
theorem dX2_failureOfRow_19 : decode cX2_failureOfRow 19 = .ok (.bipush (-11), 2) := decs_at bnc_x21_28 11 (x := (19, .bipush (-11), 2)) rfl
theorem dX2_failureOfRow_21 : decode cX2_failureOfRow 21 = .ok (.goto 4, 3) := decs_at bnc_x21_28 12 (x := (21, .goto 4, 3)) rfl
theorem dX2_failureOfRow_24 : decode cX2_failureOfRow 24 = .ok (.iconst 0, 1) := decs_at bnc_x21_28 13 (x := (24, .iconst 0, 1)) rfl
theorem dX2_failureOfRow_25 : decode cX2_failureOfRow 25 = .ok (.ireturn, 1) := decs_at bnc_x21_28 14 (x := (25, .ireturn, 1)) rfl
set_option maxRecDepth 20000 in
theorem ggX2_thrown_X2_failureAs : GoodIn wsX2_thrown wsX2_failureAs := goodIn_r _ [5, 6, 7, 8, 9, 10, 11, 12, 13, 14, 15, 16, 17] rfl (by decide +kernel)
set_option maxRecDepth 20000 in
theorem gX2_thrown_X2_failureAs : GoodIn wsX2_thrown (va_wsS RX2 61 yX2_failureAs wsX2_failureAs) := goodIn_app (goodIn_r _ [2, 3, 4] rfl (by decide +kernel)) ggX2_thrown_X2_failureAs
theorem bnc_x21_29 : decs cX2_thrown [(0, .aload_n 0, 1), (1, .iconst 4, 1), (2, .invokestatic 61, 3), (5, .istore_n 1, 1), (6, .iload_n 1, 1), (7, .ifCond .eq 7, 3), (10, .iload_n 1, 1), (11, .goto 11, 3), (14, .aload_n 0, 1), (15, .getfield 65, 3), (18, .bipush 16, 2), (20, .laload, 1), (21, .l2i, 1), (22, .ireturn, 1)] = true := by decide +kernel
theorem dX2_thrown_0 : decode cX2_thrown 0 = .ok (.aload_n 0, 1) := decs_at bnc_x21_29 0 (x := (0, .aload_n 0, 1)) rfl
theorem dX2_thrown_1 : decode cX2_thrown 1 = .ok (.iconst 4, 1) := decs_at bnc_x21_29 1 (x := (1, .iconst 4, 1)) rfl
theorem dX2_thrown_2 : decode cX2_thrown 2 = .ok (.invokestatic 61, 3) := decs_at bnc_x21_29 2 (x := (2, .invokestatic 61, 3)) rfl
theorem dX2_thrown_5 : decode cX2_thrown 5 = .ok (.istore_n 1, 1) := decs_at bnc_x21_29 3 (x := (5, .istore_n 1, 1)) rfl
theorem dX2_thrown_6 : decode cX2_thrown 6 = .ok (.iload_n 1, 1) := decs_at bnc_x21_29 4 (x := (6, .iload_n 1, 1)) rfl
theorem dX2_thrown_7 : decode cX2_thrown 7 = .ok (.ifCond .eq 7, 3) := decs_at bnc_x21_29 5 (x := (7, .ifCond .eq 7, 3)) rfl
theorem dX2_thrown_10 : decode cX2_thrown 10 = .ok (.iload_n 1, 1) := decs_at bnc_x21_29 6 (x := (10, .iload_n 1, 1)) rfl
theorem dX2_thrown_11 : decode cX2_thrown 11 = .ok (.goto 11, 3) := decs_at bnc_x21_29 7 (x := (11, .goto 11, 3)) rfl
theorem dX2_thrown_14 : decode cX2_thrown 14 = .ok (.aload_n 0, 1) := decs_at bnc_x21_29 8 (x := (14, .aload_n 0, 1)) rfl
theorem dX2_thrown_15 : decode cX2_thrown 15 = .ok (.getfield 65, 3) := decs_at bnc_x21_29 9 (x := (15, .getfield 65, 3)) rfl
theorem dX2_thrown_18 : decode cX2_thrown 18 = .ok (.bipush 16, 2) := decs_at bnc_x21_29 10 (x := (18, .bipush 16, 2)) rfl
theorem dX2_thrown_20 : decode cX2_thrown 20 = .ok (.laload, 1) := decs_at bnc_x21_29 11 (x := (20, .laload, 1)) rfl
theorem dX2_thrown_21 : decode cX2_thrown 21 = .ok (.l2i, 1) := decs_at bnc_x21_29 12 (x := (21, .l2i, 1)) rfl
theorem dX2_thrown_22 : decode cX2_thrown 22 = .ok (.ireturn, 1) := decs_at bnc_x21_29 13 (x := (22, .ireturn, 1)) rfl
set_option maxRecDepth 20000 in
theorem ggX2_asTold_X2_floatAsTold : GoodIn wsX2_asTold wsX2_floatAsTold := goodIn_r _ [5, 6, 7, 8] rfl (by decide +kernel)
set_option maxRecDepth 20000 in
theorem gX2_asTold_X2_floatAsTold : GoodIn wsX2_asTold (va_wsS RX2 164 yX2_floatAsTold wsX2_floatAsTold) := goodIn_app (goodIn_r _ [2, 3, 4] rfl (by decide +kernel)) ggX2_asTold_X2_floatAsTold
set_option maxRecDepth 20000 in
theorem ggX2_asTold_X2_doubleAsTold : GoodIn wsX2_asTold wsX2_doubleAsTold := goodIn_r _ [11, 12, 13, 14] rfl (by decide +kernel)
set_option maxRecDepth 20000 in
theorem gX2_asTold_X2_doubleAsTold : GoodIn wsX2_asTold (va_wsS RX2 167 yX2_doubleAsTold wsX2_doubleAsTold) := goodIn_app (goodIn_r _ [9, 10, 4] rfl (by decide +kernel)) ggX2_asTold_X2_doubleAsTold
theorem bnc_x21_30 : decs cX2_asTold [(0, .getstatic 161, 3), (3, .iload_n 0, 1), (4, .iaload, 1), (5, .tableswitch 82 0 7 #[47, 51, 56, 61, 66, 82, 70, 77], 47), (52, .lload_n 1, 1), (53, .lconst 1, 1), (54, .land, 1), (55, .lreturn, 1), (56, .lload_n 1, 1), (57, .l2i, 1), (58, .i2b, 1), (59, .i2l, 1), (60, .lreturn, 1), (61, .lload_n 1, 1), (62, .l2i, 1), (63, .i2s, 1), (64, .i2l, 1), (65, .lreturn, 1), (66, .lload_n 1, 1), (67, .l2i, 1), (68, .i2c, 1), (69, .i2l, 1), (70, .lreturn, 1), (71, .lload_n 1, 1)] = true := by decide +kernel
theorem dX2_asTold_0 : decode cX2_asTold 0 = .ok (.getstatic 161, 3) := decs_at bnc_x21_30 0 (x := (0, .getstatic 161, 3)) rfl
theorem dX2_asTold_3 : decode cX2_asTold 3 = .ok (.iload_n 0, 1) := decs_at bnc_x21_30 1 (x := (3, .iload_n 0, 1)) rfl
theorem dX2_asTold_4 : decode cX2_asTold 4 = .ok (.iaload, 1) := decs_at bnc_x21_30 2 (x := (4, .iaload, 1)) rfl
theorem dX2_asTold_5 : decode cX2_asTold 5 = .ok (.tableswitch 82 0 7 #[47, 51, 56, 61, 66, 82, 70, 77], 47) := decs_at bnc_x21_30 3 (x := (5, .tableswitch 82 0 7 #[47, 51, 56, 61, 66, 82, 70, 77], 47)) rfl
theorem dX2_asTold_52 : decode cX2_asTold 52 = .ok (.lload_n 1, 1) := decs_at bnc_x21_30 4 (x := (52, .lload_n 1, 1)) rfl
theorem dX2_asTold_53 : decode cX2_asTold 53 = .ok (.lconst 1, 1) := decs_at bnc_x21_30 5 (x := (53, .lconst 1, 1)) rfl
theorem dX2_asTold_54 : decode cX2_asTold 54 = .ok (.land, 1) := decs_at bnc_x21_30 6 (x := (54, .land, 1)) rfl
theorem dX2_asTold_55 : decode cX2_asTold 55 = .ok (.lreturn, 1) := decs_at bnc_x21_30 7 (x := (55, .lreturn, 1)) rfl
theorem dX2_asTold_56 : decode cX2_asTold 56 = .ok (.lload_n 1, 1) := decs_at bnc_x21_30 8 (x := (56, .lload_n 1, 1)) rfl
theorem dX2_asTold_57 : decode cX2_asTold 57 = .ok (.l2i, 1) := decs_at bnc_x21_30 9 (x := (57, .l2i, 1)) rfl
theorem dX2_asTold_58 : decode cX2_asTold 58 = .ok (.i2b, 1) := decs_at bnc_x21_30 10 (x := (58, .i2b, 1)) rfl
theorem dX2_asTold_59 : decode cX2_asTold 59 = .ok (.i2l, 1) := decs_at bnc_x21_30 11 (x := (59, .i2l, 1)) rfl
theorem dX2_asTold_60 : decode cX2_asTold 60 = .ok (.lreturn, 1) := decs_at bnc_x21_30 12 (x := (60, .lreturn, 1)) rfl
theorem dX2_asTold_61 : decode cX2_asTold 61 = .ok (.lload_n 1, 1) := decs_at bnc_x21_30 13 (x := (61, .lload_n 1, 1)) rfl
theorem dX2_asTold_62 : decode cX2_asTold 62 = .ok (.l2i, 1) := decs_at bnc_x21_30 14 (x := (62, .l2i, 1)) rfl
theorem dX2_asTold_63 : decode cX2_asTold 63 = .ok (.i2s, 1) := decs_at bnc_x21_30 15 (x := (63, .i2s, 1)) rfl
theorem dX2_asTold_64 : decode cX2_asTold 64 = .ok (.i2l, 1) := decs_at bnc_x21_30 16 (x := (64, .i2l, 1)) rfl
theorem dX2_asTold_65 : decode cX2_asTold 65 = .ok (.lreturn, 1) := decs_at bnc_x21_30 17 (x := (65, .lreturn, 1)) rfl
theorem dX2_asTold_66 : decode cX2_asTold 66 = .ok (.lload_n 1, 1) := decs_at bnc_x21_30 18 (x := (66, .lload_n 1, 1)) rfl
theorem dX2_asTold_67 : decode cX2_asTold 67 = .ok (.l2i, 1) := decs_at bnc_x21_30 19 (x := (67, .l2i, 1)) rfl
theorem dX2_asTold_68 : decode cX2_asTold 68 = .ok (.i2c, 1) := decs_at bnc_x21_30 20 (x := (68, .i2c, 1)) rfl
theorem dX2_asTold_69 : decode cX2_asTold 69 = .ok (.i2l, 1) := decs_at bnc_x21_30 21 (x := (69, .i2l, 1)) rfl
theorem dX2_asTold_70 : decode cX2_asTold 70 = .ok (.lreturn, 1) := decs_at bnc_x21_30 22 (x := (70, .lreturn, 1)) rfl
theorem dX2_asTold_71 : decode cX2_asTold 71 = .ok (.lload_n 1, 1) := decs_at bnc_x21_30 23 (x := (71, .lload_n 1, 1)) rfl
theorem bnc_x21_31 : decs cX2_asTold [(72, .l2i, 1), (73, .i2l, 1), (74, .lreturn, 1), (75, .lload_n 1, 1), (76, .l2i, 1), (77, .invokestatic 164, 3), (80, .i2l, 1), (81, .lreturn, 1), (82, .lload_n 1, 1), (83, .invokestatic 167, 3), (86, .lreturn, 1), (87, .lload_n 1, 1), (88, .lreturn, 1)] = true := by decide +kernel
theorem dX2_asTold_72 : decode cX2_asTold 72 = .ok (.l2i, 1) := decs_at bnc_x21_31 0 (x := (72, .l2i, 1)) rfl
theorem dX2_asTold_73 : decode cX2_asTold 73 = .ok (.i2l, 1) := decs_at bnc_x21_31 1 (x := (73, .i2l, 1)) rfl
theorem dX2_asTold_74 : decode cX2_asTold 74 = .ok (.lreturn, 1) := decs_at bnc_x21_31 2 (x := (74, .lreturn, 1)) rfl
theorem dX2_asTold_75 : decode cX2_asTold 75 = .ok (.lload_n 1, 1) := decs_at bnc_x21_31 3 (x := (75, .lload_n 1, 1)) rfl
theorem dX2_asTold_76 : decode cX2_asTold 76 = .ok (.l2i, 1) := decs_at bnc_x21_31 4 (x := (76, .l2i, 1)) rfl
theorem dX2_asTold_77 : decode cX2_asTold 77 = .ok (.invokestatic 164, 3) := decs_at bnc_x21_31 5 (x := (77, .invokestatic 164, 3)) rfl
theorem dX2_asTold_80 : decode cX2_asTold 80 = .ok (.i2l, 1) := decs_at bnc_x21_31 6 (x := (80, .i2l, 1)) rfl
theorem dX2_asTold_81 : decode cX2_asTold 81 = .ok (.lreturn, 1) := decs_at bnc_x21_31 7 (x := (81, .lreturn, 1)) rfl
theorem dX2_asTold_82 : decode cX2_asTold 82 = .ok (.lload_n 1, 1) := decs_at bnc_x21_31 8 (x := (82, .lload_n 1, 1)) rfl
theorem dX2_asTold_83 : decode cX2_asTold 83 = .ok (.invokestatic 167, 3) := decs_at bnc_x21_31 9 (x := (83, .invokestatic 167, 3)) rfl
theorem dX2_asTold_86 : decode cX2_asTold 86 = .ok (.lreturn, 1) := decs_at bnc_x21_31 10 (x := (86, .lreturn, 1)) rfl
theorem dX2_asTold_87 : decode cX2_asTold 87 = .ok (.lload_n 1, 1) := decs_at bnc_x21_31 11 (x := (87, .lload_n 1, 1)) rfl
theorem dX2_asTold_88 : decode cX2_asTold 88 = .ok (.lreturn, 1) := decs_at bnc_x21_31 12 (x := (88, .lreturn, 1)) rfl
theorem bnc_x21_32 : decs cX2_floatAsTold [(0, .iload_n 0, 1), (1, .ldc 171, 2), (3, .iand, 1), (4, .ldc 172, 2), (6, .if_icmp .le 8, 3), (9, .ldc 173, 2), (11, .goto 4, 3), (14, .iload_n 0, 1), (15, .ireturn, 1)] = true := by decide +kernel
theorem dX2_floatAsTold_0 : decode cX2_floatAsTold 0 = .ok (.iload_n 0, 1) := decs_at bnc_x21_32 0 (x := (0, .iload_n 0, 1)) rfl
theorem dX2_floatAsTold_1 : decode cX2_floatAsTold 1 = .ok (.ldc 171, 2) := decs_at bnc_x21_32 1 (x := (1, .ldc 171, 2)) rfl
theorem dX2_floatAsTold_3 : decode cX2_floatAsTold 3 = .ok (.iand, 1) := decs_at bnc_x21_32 2 (x := (3, .iand, 1)) rfl
theorem dX2_floatAsTold_4 : decode cX2_floatAsTold 4 = .ok (.ldc 172, 2) := decs_at bnc_x21_32 3 (x := (4, .ldc 172, 2)) rfl
theorem dX2_floatAsTold_6 : decode cX2_floatAsTold 6 = .ok (.if_icmp .le 8, 3) := decs_at bnc_x21_32 4 (x := (6, .if_icmp .le 8, 3)) rfl
theorem dX2_floatAsTold_9 : decode cX2_floatAsTold 9 = .ok (.ldc 173, 2) := decs_at bnc_x21_32 5 (x := (9, .ldc 173, 2)) rfl
theorem dX2_floatAsTold_11 : decode cX2_floatAsTold 11 = .ok (.goto 4, 3) := decs_at bnc_x21_32 6 (x := (11, .goto 4, 3)) rfl
theorem dX2_floatAsTold_14 : decode cX2_floatAsTold 14 = .ok (.iload_n 0, 1) := decs_at bnc_x21_32 7 (x := (14, .iload_n 0, 1)) rfl
theorem dX2_floatAsTold_15 : decode cX2_floatAsTold 15 = .ok (.ireturn, 1) := decs_at bnc_x21_32 8 (x := (15, .ireturn, 1)) rfl
theorem bnc_x21_33 : decs cX2_doubleAsTold [(0, .lload_n 0, 1), (1, .ldc2_w 174, 3), (4, .land, 1), (5, .ldc2_w 176, 3), (8, .lcmp, 1), (9, .ifCond .le 9, 3), (12, .ldc2_w 178, 3), (15, .goto 4, 3), (18, .lload_n 0, 1), (19, .lreturn, 1)] = true := by decide +kernel
theorem dX2_doubleAsTold_0 : decode cX2_doubleAsTold 0 = .ok (.lload_n 0, 1) := decs_at bnc_x21_33 0 (x := (0, .lload_n 0, 1)) rfl
theorem dX2_doubleAsTold_1 : decode cX2_doubleAsTold 1 = .ok (.ldc2_w 174, 3) := decs_at bnc_x21_33 1 (x := (1, .ldc2_w 174, 3)) rfl
theorem dX2_doubleAsTold_4 : decode cX2_doubleAsTold 4 = .ok (.land, 1) := decs_at bnc_x21_33 2 (x := (4, .land, 1)) rfl
theorem dX2_doubleAsTold_5 : decode cX2_doubleAsTold 5 = .ok (.ldc2_w 176, 3) := decs_at bnc_x21_33 3 (x := (5, .ldc2_w 176, 3)) rfl
theorem dX2_doubleAsTold_8 : decode cX2_doubleAsTold 8 = .ok (.lcmp, 1) := decs_at bnc_x21_33 4 (x := (8, .lcmp, 1)) rfl
theorem dX2_doubleAsTold_9 : decode cX2_doubleAsTold 9 = .ok (.ifCond .le 9, 3) := decs_at bnc_x21_33 5 (x := (9, .ifCond .le 9, 3)) rfl
theorem dX2_doubleAsTold_12 : decode cX2_doubleAsTold 12 = .ok (.ldc2_w 178, 3) := decs_at bnc_x21_33 6 (x := (12, .ldc2_w 178, 3)) rfl
theorem dX2_doubleAsTold_15 : decode cX2_doubleAsTold 15 = .ok (.goto 4, 3) := decs_at bnc_x21_33 7 (x := (15, .goto 4, 3)) rfl
theorem dX2_doubleAsTold_18 : decode cX2_doubleAsTold 18 = .ok (.lload_n 0, 1) := decs_at bnc_x21_33 8 (x := (18, .lload_n 0, 1)) rfl
theorem dX2_doubleAsTold_19 : decode cX2_doubleAsTold 19 = .ok (.lreturn, 1) := decs_at bnc_x21_33 9 (x := (19, .lreturn, 1)) rfl
set_option maxRecDepth 20000 in
theorem ggX2_differ_X1_held : GoodIn wsX2_differ wsX1_held := goodIn_r _ [8, 9, 10, 11, 16, 17, 18, 19, 20, 21] rfl (by decide +kernel)
set_option maxRecDepth 20000 in
theorem gX2_differ_X1_held : GoodIn wsX2_differ (wsV RX2 87 RX1 yX1_held wsX1_held) := goodIn_app (goodIn_r _ [4, 5, 6, 7] rfl (by decide +kernel)) ggX2_differ_X1_held
set_option maxRecDepth 20000 in
theorem ggX2_differ_X2_differInInts : GoodIn wsX2_differ wsX2_differInInts := goodIn_r _ [15] rfl (by decide +kernel)
set_option maxRecDepth 20000 in
theorem gX2_differ_X2_differInInts : GoodIn wsX2_differ (va_wsS RX2 180 yX2_differInInts wsX2_differInInts) := goodIn_app (goodIn_r _ [12, 13, 14] rfl (by decide +kernel)) ggX2_differ_X2_differInInts
