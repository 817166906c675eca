theorem bnc_x22_0 : decs cX2_differ [(0, .getstatic 161, 3), (3, .iload_n 2, 1), (4, .iaload, 1), (5, .bipush 8, 2), (7, .if_icmp .ne 22, 3), (10, .aload_n 0, 1), (11, .iload_n 2, 1), (12, .invokevirtual 87, 3), (15, .aload_n 1, 1), (16, .iload_n 2, 1), (17, .invokevirtual 87, 3), (20, .if_acmp .eq 7, 3), (23, .iconst 1, 1), (24, .goto 4, 3), (27, .iconst 0, 1), (28, .ireturn, 1), (29, .getstatic 161, 3), (32, .iload_n 2, 1), (33, .iaload, 1), (34, .bipush 9, 2), (36, .if_icmp .ne 15, 3), (39, .aload_n 0, 1), (40, .getfield 91, 3), (43, .aload_n 1, 1)] = true := by decide +kernel
theorem dX2_differ_0 : decode cX2_differ 0 = .ok (.getstatic 161, 3) := decs_at bnc_x22_0 0 (x := (0, .getstatic 161, 3)) rfl
theorem dX2_differ_3 : decode cX2_differ 3 = .ok (.iload_n 2, 1) := decs_at bnc_x22_0 1 (x := (3, .iload_n 2, 1)) rfl
theorem dX2_differ_4 : decode cX2_differ 4 = .ok (.iaload, 1) := decs_at bnc_x22_0 2 (x := (4, .iaload, 1)) rfl
theorem dX2_differ_5 : decode cX2_differ 5 = .ok (.bipush 8, 2) := decs_at bnc_x22_0 3 (x := (5, .bipush 8, 2)) rfl
theorem dX2_differ_7 : decode cX2_differ 7 = .ok (.if_icmp .ne 22, 3) := decs_at bnc_x22_0 4 (x := (7, .if_icmp .ne 22, 3)) rfl
theorem dX2_differ_10 : decode cX2_differ 10 = .ok (.aload_n 0, 1) := decs_at bnc_x22_0 5 (x := (10, .aload_n 0, 1)) rfl
theorem dX2_differ_11 : decode cX2_differ 11 = .ok (.iload_n 2, 1) := decs_at bnc_x22_0 6 (x := (11, .iload_n 2, 1)) rfl
theorem dX2_differ_12 : decode cX2_differ 12 = .ok (.invokevirtual 87, 3) := decs_at bnc_x22_0 7 (x := (12, .invokevirtual 87, 3)) rfl
theorem dX2_differ_15 : decode cX2_differ 15 = .ok (.aload_n 1, 1) := decs_at bnc_x22_0 8 (x := (15, .aload_n 1, 1)) rfl
theorem dX2_differ_16 : decode cX2_differ 16 = .ok (.iload_n 2, 1) := decs_at bnc_x22_0 9 (x := (16, .iload_n 2, 1)) rfl
theorem dX2_differ_17 : decode cX2_differ 17 = .ok (.invokevirtual 87, 3) := decs_at bnc_x22_0 10 (x := (17, .invokevirtual 87, 3)) rfl
theorem dX2_differ_20 : decode cX2_differ 20 = .ok (.if_acmp .eq 7, 3) := decs_at bnc_x22_0 11 (x := (20, .if_acmp .eq 7, 3)) rfl
theorem dX2_differ_23 : decode cX2_differ 23 = .ok (.iconst 1, 1) := decs_at bnc_x22_0 12 (x := (23, .iconst 1, 1)) rfl
theorem dX2_differ_24 : decode cX2_differ 24 = .ok (.goto 4, 3) := decs_at bnc_x22_0 13 (x := (24, .goto 4, 3)) rfl
theorem dX2_differ_27 : decode cX2_differ 27 = .ok (.iconst 0, 1) := decs_at bnc_x22_0 14 (x := (27, .iconst 0, 1)) rfl
theorem dX2_differ_28 : decode cX2_differ 28 = .ok (.ireturn, 1) := decs_at bnc_x22_0 15 (x := (28, .ireturn, 1)) rfl
theorem dX2_differ_29 : decode cX2_differ 29 = .ok (.getstatic 161, 3) := decs_at bnc_x22_0 16 (x := (29, .getstatic 161, 3)) rfl
theorem dX2_differ_32 : decode cX2_differ 32 = .ok (.iload_n 2, 1) := decs_at bnc_x22_0 17 (x := (32, .iload_n 2, 1)) rfl
theorem dX2_differ_33 : decode cX2_differ 33 = .ok (.iaload, 1) := decs_at bnc_x22_0 18 (x := (33, .iaload, 1)) rfl
theorem dX2_differ_34 : decode cX2_differ 34 = .ok (.bipush 9, 2) := decs_at bnc_x22_0 19 (x := (34, .bipush 9, 2)) rfl
theorem dX2_differ_36 : decode cX2_differ 36 = .ok (.if_icmp .ne 15, 3) := decs_at bnc_x22_0 20 (x := (36, .if_icmp .ne 15, 3)) rfl
theorem dX2_differ_39 : decode cX2_differ 39 = .ok (.aload_n 0, 1) := decs_at bnc_x22_0 21 (x := (39, .aload_n 0, 1)) rfl
theorem dX2_differ_40 : decode cX2_differ 40 = .ok (.getfield 91, 3) := decs_at bnc_x22_0 22 (x := (40, .getfield 91, 3)) rfl
theorem dX2_differ_43 : decode cX2_differ 43 = .ok (.aload_n 1, 1) := decs_at bnc_x22_0 23 (x := (43, .aload_n 1, 1)) rfl
theorem bnc_x22_1 : decs cX2_differ [(44, .getfield 91, 3), (47, .invokestatic 180, 3), (50, .ireturn, 1), (51, .aload_n 0, 1), (52, .getfield 65, 3), (55, .iload_n 2, 1), (56, .laload, 1), (57, .aload_n 1, 1), (58, .getfield 65, 3), (61, .iload_n 2, 1), (62, .laload, 1), (63, .lcmp, 1), (64, .ifCond .eq 7, 3), (67, .iconst 1, 1), (68, .goto 4, 3), (71, .iconst 0, 1), (72, .ireturn, 1)] = true := by decide +kernel
theorem dX2_differ_44 : decode cX2_differ 44 = .ok (.getfield 91, 3) := decs_at bnc_x22_1 0 (x := (44, .getfield 91, 3)) rfl
theorem dX2_differ_47 : decode cX2_differ 47 = .ok (.invokestatic 180, 3) := decs_at bnc_x22_1 1 (x := (47, .invokestatic 180, 3)) rfl
theorem dX2_differ_50 : decode cX2_differ 50 = .ok (.ireturn, 1) := decs_at bnc_x22_1 2 (x := (50, .ireturn, 1)) rfl
theorem dX2_differ_51 : decode cX2_differ 51 = .ok (.aload_n 0, 1) := decs_at bnc_x22_1 3 (x := (51, .aload_n 0, 1)) rfl
theorem dX2_differ_52 : decode cX2_differ 52 = .ok (.getfield 65, 3) := decs_at bnc_x22_1 4 (x := (52, .getfield 65, 3)) rfl
theorem dX2_differ_55 : decode cX2_differ 55 = .ok (.iload_n 2, 1) := decs_at bnc_x22_1 5 (x := (55, .iload_n 2, 1)) rfl
theorem dX2_differ_56 : decode cX2_differ 56 = .ok (.laload, 1) := decs_at bnc_x22_1 6 (x := (56, .laload, 1)) rfl
theorem dX2_differ_57 : decode cX2_differ 57 = .ok (.aload_n 1, 1) := decs_at bnc_x22_1 7 (x := (57, .aload_n 1, 1)) rfl
theorem dX2_differ_58 : decode cX2_differ 58 = .ok (.getfield 65, 3) := decs_at bnc_x22_1 8 (x := (58, .getfield 65, 3)) rfl
theorem dX2_differ_61 : decode cX2_differ 61 = .ok (.iload_n 2, 1) := decs_at bnc_x22_1 9 (x := (61, .iload_n 2, 1)) rfl
theorem dX2_differ_62 : decode cX2_differ 62 = .ok (.laload, 1) := decs_at bnc_x22_1 10 (x := (62, .laload, 1)) rfl
theorem dX2_differ_63 : decode cX2_differ 63 = .ok (.lcmp, 1) := decs_at bnc_x22_1 11 (x := (63, .lcmp, 1)) rfl
theorem dX2_differ_64 : decode cX2_differ 64 = .ok (.ifCond .eq 7, 3) := decs_at bnc_x22_1 12 (x := (64, .ifCond .eq 7, 3)) rfl
theorem dX2_differ_67 : decode cX2_differ 67 = .ok (.iconst 1, 1) := decs_at bnc_x22_1 13 (x := (67, .iconst 1, 1)) rfl
theorem dX2_differ_68 : decode cX2_differ 68 = .ok (.goto 4, 3) := decs_at bnc_x22_1 14 (x := (68, .goto 4, 3)) rfl
theorem dX2_differ_71 : decode cX2_differ 71 = .ok (.iconst 0, 1) := decs_at bnc_x22_1 15 (x := (71, .iconst 0, 1)) rfl
theorem dX2_differ_72 : decode cX2_differ 72 = .ok (.ireturn, 1) := decs_at bnc_x22_1 16 (x := (72, .ireturn, 1)) rfl
theorem bnc_x22_2 : decs cX2_differInInts [(0, .aload_n 0, 1), (1, .ifnull 7, 3), (4, .aload_n 1, 1), (5, .ifnonnull 17, 3), (8, .aload_n 0, 1), (9, .ifnonnull 7, 3), (12, .aload_n 1, 1), (13, .ifnull 7, 3), (16, .iconst 1, 1), (17, .goto 4, 3), (20, .iconst 0, 1), (21, .ireturn, 1), (22, .aload_n 0, 1), (23, .arraylength, 1), (24, .aload_n 1, 1), (25, .arraylength, 1), (26, .if_icmp .eq 5, 3), (29, .iconst 1, 1), (30, .ireturn, 1), (31, .iconst 0, 1), (32, .istore_n 2, 1), (33, .iload_n 2, 1), (34, .aload_n 0, 1), (35, .arraylength, 1)] = true := by decide +kernel
theorem dX2_differInInts_0 : decode cX2_differInInts 0 = .ok (.aload_n 0, 1) := decs_at bnc_x22_2 0 (x := (0, .aload_n 0, 1)) rfl
theorem dX2_differInInts_1 : decode cX2_differInInts 1 = .ok (.ifnull 7, 3) := decs_at bnc_x22_2 1 (x := (1, .ifnull 7, 3)) rfl
theorem dX2_differInInts_4 : decode cX2_differInInts 4 = .ok (.aload_n 1, 1) := decs_at bnc_x22_2 2 (x := (4, .aload_n 1, 1)) rfl
theorem dX2_differInInts_5 : decode cX2_differInInts 5 = .ok (.ifnonnull 17, 3) := decs_at bnc_x22_2 3 (x := (5, .ifnonnull 17, 3)) rfl
theorem dX2_differInInts_8 : decode cX2_differInInts 8 = .ok (.aload_n 0, 1) := decs_at bnc_x22_2 4 (x := (8, .aload_n 0, 1)) rfl
theorem dX2_differInInts_9 : decode cX2_differInInts 9 = .ok (.ifnonnull 7, 3) := decs_at bnc_x22_2 5 (x := (9, .ifnonnull 7, 3)) rfl
theorem dX2_differInInts_12 : decode cX2_differInInts 12 = .ok (.aload_n 1, 1) := decs_at bnc_x22_2 6 (x := (12, .aload_n 1, 1)) rfl
theorem dX2_differInInts_13 : decode cX2_differInInts 13 = .ok (.ifnull 7, 3) := decs_at bnc_x22_2 7 (x := (13, .ifnull 7, 3)) rfl
theorem dX2_differInInts_16 : decode cX2_differInInts 16 = .ok (.iconst 1, 1) := decs_at bnc_x22_2 8 (x := (16, .iconst 1, 1)) rfl
theorem dX2_differInInts_17 : decode cX2_differInInts 17 = .ok (.goto 4, 3) := decs_at bnc_x22_2 9 (x := (17, .goto 4, 3)) rfl
theorem dX2_differInInts_20 : decode cX2_differInInts 20 = .ok (.iconst 0, 1) := decs_at bnc_x22_2 10 (x := (20, .iconst 0, 1)) rfl
theorem dX2_differInInts_21 : decode cX2_differInInts 21 = .ok (.ireturn, 1) := decs_at bnc_x22_2 11 (x := (21, .ireturn, 1)) rfl
theorem dX2_differInInts_22 : decode cX2_differInInts 22 = .ok (.aload_n 0, 1) := decs_at bnc_x22_2 12 (x := (22, .aload_n 0, 1)) rfl
theorem dX2_differInInts_23 : decode cX2_differInInts 23 = .ok (.arraylength, 1) := decs_at bnc_x22_2 13 (x := (23, .arraylength, 1)) rfl
theorem dX2_differInInts_24 : decode cX2_differInInts 24 = .ok (.aload_n 1, 1) := decs_at bnc_x22_2 14 (x := (24, .aload_n 1, 1)) rfl
theorem dX2_differInInts_25 : decode cX2_differInInts 25 = .ok (.arraylength, 1) := decs_at bnc_x22_2 15 (x := (25, .arraylength, 1)) rfl
theorem dX2_differInInts_26 : decode cX2_differInInts 26 = .ok (.if_icmp .eq 5, 3) := decs_at bnc_x22_2 16 (x := (26, .if_icmp .eq 5, 3)) rfl
theorem dX2_differInInts_29 : decode cX2_differInInts 29 = .ok (.iconst 1, 1) := decs_at bnc_x22_2 17 (x := (29, .iconst 1, 1)) rfl
theorem dX2_differInInts_30 : decode cX2_differInInts 30 = .ok (.ireturn, 1) := decs_at bnc_x22_2 18 (x := (30, .ireturn, 1)) rfl
theorem dX2_differInInts_31 : decode cX2_differInInts 31 = .ok (.iconst 0, 1) := decs_at bnc_x22_2 19 (x := (31, .iconst 0, 1)) rfl
theorem dX2_differInInts_32 : decode cX2_differInInts 32 = .ok (.istore_n 2, 1) := decs_at bnc_x22_2 20 (x := (32, .istore_n 2, 1)) rfl
theorem dX2_differInInts_33 : decode cX2_differInInts 33 = .ok (.iload_n 2, 1) := decs_at bnc_x22_2 21 (x := (33, .iload_n 2, 1)) rfl
theorem dX2_differInInts_34 : decode cX2_differInInts 34 = .ok (.aload_n 0, 1) := decs_at bnc_x22_2 22 (x := (34, .aload_n 0, 1)) rfl
theorem dX2_differInInts_35 : decode cX2_differInInts 35 = .ok (.arraylength, 1) := decs_at bnc_x22_2 23 (x := (35, .arraylength, 1)) rfl
theorem bnc_x22_3 : decs cX2_differInInts [(36, .if_icmp .ge 20, 3), (39, .aload_n 0, 1), (40, .iload_n 2, 1), (41, .iaload, 1), (42, .aload_n 1, 1), (43, .iload_n 2, 1), (44, .iaload, 1), (45, .if_icmp .eq 5, 3), (48, .iconst 1, 1), (49, .ireturn, 1), (50, .iinc 2 1, 3), (53, .goto (-20), 3), (56, .iconst 0, 1), (57, .ireturn, 1)] = true := by decide +kernel
theorem dX2_differInInts_36 : decode cX2_differInInts 36 = .ok (.if_icmp .ge 20, 3) := decs_at bnc_x22_3 0 (x := (36, .if_icmp .ge 20, 3)) rfl
theorem dX2_differInInts_39 : decode cX2_differInInts 39 = .ok (.aload_n 0, 1) := decs_at bnc_x22_3 1 (x := (39, .aload_n 0, 1)) rfl
theorem dX2_differInInts_40 : decode cX2_differInInts 40 = .ok (.iload_n 2, 1) := decs_at bnc_x22_3 2 (x := (40, .iload_n 2, 1)) rfl
theorem dX2_differInInts_41 : decode cX2_differInInts 41 = .ok (.iaload, 1) := decs_at bnc_x22_3 3 (x := (41, .iaload, 1)) rfl
theorem dX2_differInInts_42 : decode cX2_differInInts 42 = .ok (.aload_n 1, 1) := decs_at bnc_x22_3 4 (x := (42, .aload_n 1, 1)) rfl
theorem dX2_differInInts_43 : decode cX2_differInInts 43 = .ok (.iload_n 2, 1) := decs_at bnc_x22_3 5 (x := (43, .iload_n 2, 1)) rfl
theorem dX2_differInInts_44 : decode cX2_differInInts 44 = .ok (.iaload, 1) := decs_at bnc_x22_3 6 (x := (44, .iaload, 1)) rfl
theorem dX2_differInInts_45 : decode cX2_differInInts 45 = .ok (.if_icmp .eq 5, 3) := decs_at bnc_x22_3 7 (x := (45, .if_icmp .eq 5, 3)) rfl
theorem dX2_differInInts_48 : decode cX2_differInInts 48 = .ok (.iconst 1, 1) := decs_at bnc_x22_3 8 (x := (48, .iconst 1, 1)) rfl
theorem dX2_differInInts_49 : decode cX2_differInInts 49 = .ok (.ireturn, 1) := decs_at bnc_x22_3 9 (x := (49, .ireturn, 1)) rfl
theorem dX2_differInInts_50 : decode cX2_differInInts 50 = .ok (.iinc 2 1, 3) := decs_at bnc_x22_3 10 (x := (50, .iinc 2 1, 3)) rfl
theorem dX2_differInInts_53 : decode cX2_differInInts 53 = .ok (.goto (-20), 3) := decs_at bnc_x22_3 11 (x := (53, .goto (-20), 3)) rfl
theorem dX2_differInInts_56 : decode cX2_differInInts 56 = .ok (.iconst 0, 1) := decs_at bnc_x22_3 12 (x := (56, .iconst 0, 1)) rfl
theorem dX2_differInInts_57 : decode cX2_differInInts 57 = .ok (.ireturn, 1) := decs_at bnc_x22_3 13 (x := (57, .ireturn, 1)) rfl
set_option maxRecDepth 20000 in
theorem ggX2_tell_X2_findFrom : GoodIn wsX2_tell wsX2_findFrom := goodIn_r _ [7, 8, 2, 9, 10, 11, 12, 13, 14, 6, 15, 16, 17, 18, 19, 56, 57, 58, 59, 60, 61, 62, 63, 64, 65, 66, 67, 68, 69, 70] rfl (by decide +kernel)
set_option maxRecDepth 20000 in
theorem gX2_tell_X2_findFrom : GoodIn wsX2_tell (wsV RX2 184 RX2 yX2_findFrom wsX2_findFrom) := goodIn_app (goodIn_r _ [3, 4, 5, 6] rfl (by decide +kernel)) ggX2_tell_X2_findFrom
set_option maxRecDepth 20000 in
theorem ggX2_tell_X2_tellObject : GoodIn wsX2_tell wsX2_tellObject := goodIn_r _ [23, 8, 24, 25, 26, 27, 28, 29, 30, 31, 32, 33, 34, 35, 36, 6, 37, 38, 39, 40, 41, 42, 43, 44, 45, 46, 47, 48, 16, 17, 18, 19, 2, 49, 50, 51, 56, 57, 58, 59, 60, 61, 62, 63, 64, 65, 66, 67, 68, 69, 70, 52, 53, 54, 55] rfl (by decide +kernel)
set_option maxRecDepth 20000 in
theorem gX2_tell_X2_tellObject : GoodIn wsX2_tell (wsV RX2 191 RX2 yX2_tellObject wsX2_tellObject) := goodIn_app (goodIn_r _ [20, 21, 22, 6] rfl (by decide +kernel)) ggX2_tell_X2_tellObject
theorem bnc_x22_4 : decs cX2_tell [(0, .aload_n 2, 1), (1, .iconst 0, 1), (2, .putfield 128, 3), (5, .aload_n 0, 1), (6, .aload_n 1, 1), (7, .invokevirtual 184, 3), (10, .ifCond .ne 5, 3), (13, .iconst 0, 1), (14, .ireturn, 1), (15, .iconst 0, 1), (16, .istore_n 3, 1), (17, .iload_n 3, 1), (18, .aload_n 0, 1), (19, .getfield 188, 3), (22, .if_icmp .ge 20, 3), (25, .aload_n 0, 1), (26, .iload_n 3, 1), (27, .aload_n 2, 1), (28, .invokevirtual 191, 3), (31, .ifCond .ne 5, 3), (34, .iconst 0, 1), (35, .ireturn, 1), (36, .iinc 3 1, 3), (39, .goto (-22), 3)] = true := by decide +kernel
theorem dX2_tell_0 : decode cX2_tell 0 = .ok (.aload_n 2, 1) := decs_at bnc_x22_4 0 (x := (0, .aload_n 2, 1)) rfl
theorem dX2_tell_1 : decode cX2_tell 1 = .ok (.iconst 0, 1) := decs_at bnc_x22_4 1 (x := (1, .iconst 0, 1)) rfl
theorem dX2_tell_2 : decode cX2_tell 2 = .ok (.putfield 128, 3) := decs_at bnc_x22_4 2 (x := (2, .putfield 128, 3)) rfl
theorem dX2_tell_5 : decode cX2_tell 5 = .ok (.aload_n 0, 1) := decs_at bnc_x22_4 3 (x := (5, .aload_n 0, 1)) rfl
theorem dX2_tell_6 : decode cX2_tell 6 = .ok (.aload_n 1, 1) := decs_at bnc_x22_4 4 (x := (6, .aload_n 1, 1)) rfl
theorem dX2_tell_7 : decode cX2_tell 7 = .ok (.invokevirtual 184, 3) := decs_at bnc_x22_4 5 (x := (7, .invokevirtual 184, 3)) rfl
theorem dX2_tell_10 : decode cX2_tell 10 = .ok (.ifCond .ne 5, 3) := decs_at bnc_x22_4 6 (x := (10, .ifCond .ne 5, 3)) rfl
theorem dX2_tell_13 : decode cX2_tell 13 = .ok (.iconst 0, 1) := decs_at bnc_x22_4 7 (x := (13, .iconst 0, 1)) rfl
theorem dX2_tell_14 : decode cX2_tell 14 = .ok (.ireturn, 1) := decs_at bnc_x22_4 8 (x := (14, .ireturn, 1)) rfl
theorem dX2_tell_15 : decode cX2_tell 15 = .ok (.iconst 0, 1) := decs_at bnc_x22_4 9 (x := (15, .iconst 0, 1)) rfl
theorem dX2_tell_16 : decode cX2_tell 16 = .ok (.istore_n 3, 1) := decs_at bnc_x22_4 10 (x := (16, .istore_n 3, 1)) rfl
theorem dX2_tell_17 : decode cX2_tell 17 = .ok (.iload_n 3, 1) := decs_at bnc_x22_4 11 (x := (17, .iload_n 3, 1)) rfl
theorem dX2_tell_18 : decode cX2_tell 18 = .ok (.aload_n 0, 1) := decs_at bnc_x22_4 12 (x := (18, .aload_n 0, 1)) rfl
theorem dX2_tell_19 : decode cX2_tell 19 = .ok (.getfield 188, 3) := decs_at bnc_x22_4 13 (x := (19, .getfield 188, 3)) rfl
theorem dX2_tell_22 : decode cX2_tell 22 = .ok (.if_icmp .ge 20, 3) := decs_at bnc_x22_4 14 (x := (22, .if_icmp .ge 20, 3)) rfl
theorem dX2_tell_25 : decode cX2_tell 25 = .ok (.aload_n 0, 1) := decs_at bnc_x22_4 15 (x := (25, .aload_n 0, 1)) rfl
theorem dX2_tell_26 : decode cX2_tell 26 = .ok (.iload_n 3, 1) := decs_at bnc_x22_4 16 (x := (26, .iload_n 3, 1)) rfl
theorem dX2_tell_27 : decode cX2_tell 27 = .ok (.aload_n 2, 1) := decs_at bnc_x22_4 17 (x := (27, .aload_n 2, 1)) rfl
theorem dX2_tell_28 : decode cX2_tell 28 = .ok (.invokevirtual 191, 3) := decs_at bnc_x22_4 18 (x := (28, .invokevirtual 191, 3)) rfl
theorem dX2_tell_31 : decode cX2_tell 31 = .ok (.ifCond .ne 5, 3) := decs_at bnc_x22_4 19 (x := (31, .ifCond .ne 5, 3)) rfl
theorem dX2_tell_34 : decode cX2_tell 34 = .ok (.iconst 0, 1) := decs_at bnc_x22_4 20 (x := (34, .iconst 0, 1)) rfl
theorem dX2_tell_35 : decode cX2_tell 35 = .ok (.ireturn, 1) := decs_at bnc_x22_4 21 (x := (35, .ireturn, 1)) rfl
theorem dX2_tell_36 : decode cX2_tell 36 = .ok (.iinc 3 1, 3) := decs_at bnc_x22_4 22 (x := (36, .iinc 3 1, 3)) rfl
theorem dX2_tell_39 : decode cX2_tell 39 = .ok (.goto (-22), 3) := decs_at bnc_x22_4 23 (x := (39, .goto (-22), 3)) rfl
theorem dX2_tell_42 : decode cX2_tell 42 = .ok (.iconst 1, 1) := by decide +kernel
theorem dX2_tell_43 : decode cX2_tell 43 = .ok (.ireturn, 1) := by decide +kernel
set_option maxRecDepth 20000 in
theorem ggX2_findFrom_X2_addFound : GoodIn wsX2_findFrom wsX2_addFound := goodIn_r _ [10, 2, 1, 11, 12, 13, 9, 14, 15, 16, 17, 18, 19, 20, 21, 22, 23] rfl (by decide +kernel)
set_option maxRecDepth 20000 in
theorem gX2_findFrom_X2_addFound : GoodIn wsX2_findFrom (wsV RX2 195 RX2 yX2_addFound wsX2_addFound) := goodIn_app (goodIn_r _ [6, 7, 8, 9] rfl (by decide +kernel)) ggX2_findFrom_X2_addFound
theorem bnc_x22_5 : decs cX2_findFrom [(0, .aload_n 0, 1), (1, .getfield 28, 3), (4, .iconst 0, 1), (5, .aload_n 1, 1), (6, .aastore, 1), (7, .aload_n 0, 1), (8, .iconst 1, 1), (9, .putfield 188, 3), (12, .iconst 0, 1), (13, .istore_n 2, 1), (14, .iload_n 2, 1), (15, .aload_n 0, 1), (16, .getfield 188, 3), (19, .if_icmp .ge 57, 3), (22, .iload_n 2, 1), (23, .bipush 24, 2), (25, .if_icmp .ge 51, 3), (28, .aload_n 0, 1), (29, .getfield 28, 3), (32, .iload_n 2, 1), (33, .aaload, 1), (34, .astore_n 3, 1), (35, .aload_n 0, 1), (36, .aload_n 3, 1)] = true := by decide +kernel
theorem dX2_findFrom_0 : decode cX2_findFrom 0 = .ok (.aload_n 0, 1) := decs_at bnc_x22_5 0 (x := (0, .aload_n 0, 1)) rfl
theorem dX2_findFrom_1 : decode cX2_findFrom 1 = .ok (.getfield 28, 3) := decs_at bnc_x22_5 1 (x := (1, .getfield 28, 3)) rfl
theorem dX2_findFrom_4 : decode cX2_findFrom 4 = .ok (.iconst 0, 1) := decs_at bnc_x22_5 2 (x := (4, .iconst 0, 1)) rfl
theorem dX2_findFrom_5 : decode cX2_findFrom 5 = .ok (.aload_n 1, 1) := decs_at bnc_x22_5 3 (x := (5, .aload_n 1, 1)) rfl
theorem dX2_findFrom_6 : decode cX2_findFrom 6 = .ok (.aastore, 1) := decs_at bnc_x22_5 4 (x := (6, .aastore, 1)) rfl
theorem dX2_findFrom_7 : decode cX2_findFrom 7 = .ok (.aload_n 0, 1) := decs_at bnc_x22_5 5 (x := (7, .aload_n 0, 1)) rfl
theorem dX2_findFrom_8 : decode cX2_findFrom 8 = .ok (.iconst 1, 1) := decs_at bnc_x22_5 6 (x := (8, .iconst 1, 1)) rfl
theorem dX2_findFrom_9 : decode cX2_findFrom 9 = .ok (.putfield 188, 3) := decs_at bnc_x22_5 7 (x := (9, .putfield 188, 3)) rfl
theorem dX2_findFrom_12 : decode cX2_findFrom 12 = .ok (.iconst 0, 1) := decs_at bnc_x22_5 8 (x := (12, .iconst 0, 1)) rfl
theorem dX2_findFrom_13 : decode cX2_findFrom 13 = .ok (.istore_n 2, 1) := decs_at bnc_x22_5 9 (x := (13, .istore_n 2, 1)) rfl
theorem dX2_findFrom_14 : decode cX2_findFrom 14 = .ok (.iload_n 2, 1) := decs_at bnc_x22_5 10 (x := (14, .iload_n 2, 1)) rfl
theorem dX2_findFrom_15 : decode cX2_findFrom 15 = .ok (.aload_n 0, 1) := decs_at bnc_x22_5 11 (x := (15, .aload_n 0, 1)) rfl
theorem dX2_findFrom_16 : decode cX2_findFrom 16 = .ok (.getfield 188, 3) := decs_at bnc_x22_5 12 (x := (16, .getfield 188, 3)) rfl
theorem dX2_findFrom_19 : decode cX2_findFrom 19 = .ok (.if_icmp .ge 57, 3) := decs_at bnc_x22_5 13 (x := (19, .if_icmp .ge 57, 3)) rfl
theorem dX2_findFrom_22 : decode cX2_findFrom 22 = .ok (.iload_n 2, 1) := decs_at bnc_x22_5 14 (x := (22, .iload_n 2, 1)) rfl
theorem dX2_findFrom_23 : decode cX2_findFrom 23 = .ok (.bipush 24, 2) := decs_at bnc_x22_5 15 (x := (23, .bipush 24, 2)) rfl
theorem dX2_findFrom_25 : decode cX2_findFrom 25 = .ok (.if_icmp .ge 51, 3) := decs_at bnc_x22_5 16 (x := (25, .if_icmp .ge 51, 3)) rfl
theorem dX2_findFrom_28 : decode cX2_findFrom 28 = .ok (.aload_n 0, 1) := decs_at bnc_x22_5 17 (x := (28, .aload_n 0, 1)) rfl
theorem dX2_findFrom_29 : decode cX2_findFrom 29 = .ok (.getfield 28, 3) := decs_at bnc_x22_5 18 (x := (29, .getfield 28, 3)) rfl
theorem dX2_findFrom_32 : decode cX2_findFrom 32 = .ok (.iload_n 2, 1) := decs_at bnc_x22_5 19 (x := (32, .iload_n 2, 1)) rfl
theorem dX2_findFrom_33 : decode cX2_findFrom 33 = .ok (.aaload, 1) := decs_at bnc_x22_5 20 (x := (33, .aaload, 1)) rfl
theorem dX2_findFrom_34 : decode cX2_findFrom 34 = .ok (.astore_n 3, 1) := decs_at bnc_x22_5 21 (x := (34, .astore_n 3, 1)) rfl
theorem dX2_findFrom_35 : decode cX2_findFrom 35 = .ok (.aload_n 0, 1) := decs_at bnc_x22_5 22 (x := (35, .aload_n 0, 1)) rfl
theorem dX2_findFrom_36 : decode cX2_findFrom 36 = .ok (.aload_n 3, 1) := decs_at bnc_x22_5 23 (x := (36, .aload_n 3, 1)) rfl
theorem bnc_x22_6 : decs cX2_findFrom [(37, .getfield 114, 3), (40, .invokevirtual 195, 3), (43, .ifCond .eq 25, 3), (46, .aload_n 0, 1), (47, .aload_n 3, 1), (48, .getfield 198, 3), (51, .invokevirtual 195, 3), (54, .ifCond .eq 14, 3), (57, .aload_n 0, 1), (58, .aload_n 3, 1), (59, .getfield 201, 3), (62, .invokevirtual 195, 3), (65, .ifCond .ne 5, 3), (68, .iconst 0, 1), (69, .ireturn, 1), (70, .iinc 2 1, 3), (73, .goto (-59), 3), (76, .iconst 1, 1), (77, .ireturn, 1)] = true := by decide +kernel
theorem dX2_findFrom_37 : decode cX2_findFrom 37 = .ok (.getfield 114, 3) := decs_at bnc_x22_6 0 (x := (37, .getfield 114, 3)) rfl
theorem dX2_findFrom_40 : decode cX2_findFrom 40 = .ok (.invokevirtual 195, 3) := decs_at bnc_x22_6 1 (x := (40, .invokevirtual 195, 3)) rfl
theorem dX2_findFrom_43 : decode cX2_findFrom 43 = .ok (.ifCond .eq 25, 3) := decs_at bnc_x22_6 2 (x := (43, .ifCond .eq 25, 3)) rfl
theorem dX2_findFrom_46 : decode cX2_findFrom 46 = .ok (.aload_n 0, 1) := decs_at bnc_x22_6 3 (x := (46, .aload_n 0, 1)) rfl
theorem dX2_findFrom_47 : decode cX2_findFrom 47 = .ok (.aload_n 3, 1) := decs_at bnc_x22_6 4 (x := (47, .aload_n 3, 1)) rfl
theorem dX2_findFrom_48 : decode cX2_findFrom 48 = .ok (.getfield 198, 3) := decs_at bnc_x22_6 5 (x := (48, .getfield 198, 3)) rfl
theorem dX2_findFrom_51 : decode cX2_findFrom 51 = .ok (.invokevirtual 195, 3) := decs_at bnc_x22_6 6 (x := (51, .invokevirtual 195, 3)) rfl
theorem dX2_findFrom_54 : decode cX2_findFrom 54 = .ok (.ifCond .eq 14, 3) := decs_at bnc_x22_6 7 (x := (54, .ifCond .eq 14, 3)) rfl
theorem dX2_findFrom_57 : decode cX2_findFrom 57 = .ok (.aload_n 0, 1) := decs_at bnc_x22_6 8 (x := (57, .aload_n 0, 1)) rfl
theorem dX2_findFrom_58 : decode cX2_findFrom 58 = .ok (.aload_n 3, 1) := decs_at bnc_x22_6 9 (x := (58, .aload_n 3, 1)) rfl
theorem dX2_findFrom_59 : decode cX2_findFrom 59 = .ok (.getfield 201, 3) := decs_at bnc_x22_6 10 (x := (59, .getfield 201, 3)) rfl
theorem dX2_findFrom_62 : decode cX2_findFrom 62 = .ok (.invokevirtual 195, 3) := decs_at bnc_x22_6 11 (x := (62, .invokevirtual 195, 3)) rfl
theorem dX2_findFrom_65 : decode cX2_findFrom 65 = .ok (.ifCond .ne 5, 3) := decs_at bnc_x22_6 12 (x := (65, .ifCond .ne 5, 3)) rfl
theorem dX2_findFrom_68 : decode cX2_findFrom 68 = .ok (.iconst 0, 1) := decs_at bnc_x22_6 13 (x := (68, .iconst 0, 1)) rfl
theorem dX2_findFrom_69 : decode cX2_findFrom 69 = .ok (.ireturn, 1) := decs_at bnc_x22_6 14 (x := (69, .ireturn, 1)) rfl
theorem dX2_findFrom_70 : decode cX2_findFrom 70 = .ok (.iinc 2 1, 3) := decs_at bnc_x22_6 15 (x := (70, .iinc 2 1, 3)) rfl
theorem dX2_findFrom_73 : decode cX2_findFrom 73 = .ok (.goto (-59), 3) := decs_at bnc_x22_6 16 (x := (73, .goto (-59), 3)) rfl
theorem dX2_findFrom_76 : decode cX2_findFrom 76 = .ok (.iconst 1, 1) := decs_at bnc_x22_6 17 (x := (76, .iconst 1, 1)) rfl
theorem dX2_findFrom_77 : decode cX2_findFrom 77 = .ok (.ireturn, 1) := decs_at bnc_x22_6 18 (x := (77, .ireturn, 1)) rfl
set_option maxRecDepth 20000 in
theorem ggX2_addFound_X2_numberOf : GoodIn wsX2_addFound wsX2_numberOf := goodIn_r _ [7, 1, 2, 8, 9, 10, 11, 12, 13, 14, 15, 16] rfl (by decide +kernel)
set_option maxRecDepth 20000 in
theorem gX2_addFound_X2_numberOf : GoodIn wsX2_addFound (wsV RX2 204 RX2 yX2_numberOf wsX2_numberOf) := goodIn_app (goodIn_r _ [3, 4, 5, 6] rfl (by decide +kernel)) ggX2_addFound_X2_numberOf
theorem bnc_x22_7 : decs cX2_addFound [(0, .aload_n 1, 1), (1, .ifnull 11, 3), (4, .aload_n 0, 1), (5, .aload_n 1, 1), (6, .invokevirtual 204, 3), (9, .ifCond .lt 5, 3), (12, .iconst 1, 1), (13, .ireturn, 1), (14, .aload_n 0, 1), (15, .getfield 188, 3), (18, .bipush 24, 2), (20, .if_icmp .lt 5, 3), (23, .iconst 0, 1), (24, .ireturn, 1), (25, .aload_n 0, 1), (26, .getfield 28, 3), (29, .aload_n 0, 1), (30, .getfield 188, 3), (33, .aload_n 1, 1), (34, .aastore, 1), (35, .aload_n 0, 1), (36, .dup, 1), (37, .getfield 188, 3), (40, .iconst 1, 1)] = true := by decide +kernel
theorem dX2_addFound_0 : decode cX2_addFound 0 = .ok (.aload_n 1, 1) := decs_at bnc_x22_7 0 (x := (0, .aload_n 1, 1)) rfl
theorem dX2_addFound_1 : decode cX2_addFound 1 = .ok (.ifnull 11, 3) := decs_at bnc_x22_7 1 (x := (1, .ifnull 11, 3)) rfl
theorem dX2_addFound_4 : decode cX2_addFound 4 = .ok (.aload_n 0, 1) := decs_at bnc_x22_7 2 (x := (4, .aload_n 0, 1)) rfl
theorem dX2_addFound_5 : decode cX2_addFound 5 = .ok (.aload_n 1, 1) := decs_at bnc_x22_7 3 (x := (5, .aload_n 1, 1)) rfl
theorem dX2_addFound_6 : decode cX2_addFound 6 = .ok (.invokevirtual 204, 3) := decs_at bnc_x22_7 4 (x := (6, .invokevirtual 204, 3)) rfl
theorem dX2_addFound_9 : decode cX2_addFound 9 = .ok (.ifCond .lt 5, 3) := decs_at bnc_x22_7 5 (x := (9, .ifCond .lt 5, 3)) rfl
theorem dX2_addFound_12 : decode cX2_addFound 12 = .ok (.iconst 1, 1) := decs_at bnc_x22_7 6 (x := (12, .iconst 1, 1)) rfl
theorem dX2_addFound_13 : decode cX2_addFound 13 = .ok (.ireturn, 1) := decs_at bnc_x22_7 7 (x := (13, .ireturn, 1)) rfl
theorem dX2_addFound_14 : decode cX2_addFound 14 = .ok (.aload_n 0, 1) := decs_at bnc_x22_7 8 (x := (14, .aload_n 0, 1)) rfl
theorem dX2_addFound_15 : decode cX2_addFound 15 = .ok (.getfield 188, 3) := decs_at bnc_x22_7 9 (x := (15, .getfield 188, 3)) rfl
theorem dX2_addFound_18 : decode cX2_addFound 18 = .ok (.bipush 24, 2) := decs_at bnc_x22_7 10 (x := (18, .bipush 24, 2)) rfl
theorem dX2_addFound_20 : decode cX2_addFound 20 = .ok (.if_icmp .lt 5, 3) := decs_at bnc_x22_7 11 (x := (20, .if_icmp .lt 5, 3)) rfl
theorem dX2_addFound_23 : decode cX2_addFound 23 = .ok (.iconst 0, 1) := decs_at bnc_x22_7 12 (x := (23, .iconst 0, 1)) rfl
theorem dX2_addFound_24 : decode cX2_addFound 24 = .ok (.ireturn, 1) := decs_at bnc_x22_7 13 (x := (24, .ireturn, 1)) rfl
theorem dX2_addFound_25 : decode cX2_addFound 25 = .ok (.aload_n 0, 1) := decs_at bnc_x22_7 14 (x := (25, .aload_n 0, 1)) rfl
theorem dX2_addFound_26 : decode cX2_addFound 26 = .ok (.getfield 28, 3) := decs_at bnc_x22_7 15 (x := (26, .getfield 28, 3)) rfl
theorem dX2_addFound_29 : decode cX2_addFound 29 = .ok (.aload_n 0, 1) := decs_at bnc_x22_7 16 (x := (29, .aload_n 0, 1)) rfl
theorem dX2_addFound_30 : decode cX2_addFound 30 = .ok (.getfield 188, 3) := decs_at bnc_x22_7 17 (x := (30, .getfield 188, 3)) rfl
theorem dX2_addFound_33 : decode cX2_addFound 33 = .ok (.aload_n 1, 1) := decs_at bnc_x22_7 18 (x := (33, .aload_n 1, 1)) rfl
theorem dX2_addFound_34 : decode cX2_addFound 34 = .ok (.aastore, 1) := decs_at bnc_x22_7 19 (x := (34, .aastore, 1)) rfl
theorem dX2_addFound_35 : decode cX2_addFound 35 = .ok (.aload_n 0, 1) := decs_at bnc_x22_7 20 (x := (35, .aload_n 0, 1)) rfl
theorem dX2_addFound_36 : decode cX2_addFound 36 = .ok (.dup, 1) := decs_at bnc_x22_7 21 (x := (36, .dup, 1)) rfl
theorem dX2_addFound_37 : decode cX2_addFound 37 = .ok (.getfield 188, 3) := decs_at bnc_x22_7 22 (x := (37, .getfield 188, 3)) rfl
theorem dX2_addFound_40 : decode cX2_addFound 40 = .ok (.iconst 1, 1) := decs_at bnc_x22_7 23 (x := (40, .iconst 1, 1)) rfl
theorem bnc_x22_8 : decs cX2_addFound [(41, .iadd, 1), (42, .putfield 188, 3), (45, .iconst 1, 1), (46, .ireturn, 1)] = true := by decide +kernel
theorem dX2_addFound_41 : decode cX2_addFound 41 = .ok (.iadd, 1) := decs_at bnc_x22_8 0 (x := (41, .iadd, 1)) rfl
theorem dX2_addFound_42 : decode cX2_addFound 42 = .ok (.putfield 188, 3) := decs_at bnc_x22_8 1 (x := (42, .putfield 188, 3)) rfl
theorem dX2_addFound_45 : decode cX2_addFound 45 = .ok (.iconst 1, 1) := decs_at bnc_x22_8 2 (x := (45, .iconst 1, 1)) rfl
theorem dX2_addFound_46 : decode cX2_addFound 46 = .ok (.ireturn, 1) := decs_at bnc_x22_8 3 (x := (46, .ireturn, 1)) rfl
theorem bnc_x22_9 : decs cX2_numberOf [(0, .iconst 0, 1), (1, .istore_n 2, 1), (2, .iload_n 2, 1), (3, .aload_n 0, 1), (4, .getfield 188, 3), (7, .if_icmp .ge 21, 3), (10, .aload_n 0, 1), (11, .getfield 28, 3), (14, .iload_n 2, 1), (15, .aaload, 1), (16, .aload_n 1, 1), (17, .if_acmp .ne 5, 3), (20, .iload_n 2, 1), (21, .ireturn, 1), (22, .iinc 2 1, 3), (25, .goto (-23), 3), (28, .iconst (-1), 1), (29, .ireturn, 1)] = true := by decide +kernel
theorem dX2_numberOf_0 : decode cX2_numberOf 0 = .ok (.iconst 0, 1) := decs_at bnc_x22_9 0 (x := (0, .iconst 0, 1)) rfl
theorem dX2_numberOf_1 : decode cX2_numberOf 1 = .ok (.istore_n 2, 1) := decs_at bnc_x22_9 1 (x := (1, .istore_n 2, 1)) rfl
theorem dX2_numberOf_2 : decode cX2_numberOf 2 = .ok (.iload_n 2, 1) := decs_at bnc_x22_9 2 (x := (2, .iload_n 2, 1)) rfl
theorem dX2_numberOf_3 : decode cX2_numberOf 3 = .ok (.aload_n 0, 1) := decs_at bnc_x22_9 3 (x := (3, .aload_n 0, 1)) rfl
theorem dX2_numberOf_4 : decode cX2_numberOf 4 = .ok (.getfield 188, 3) := decs_at bnc_x22_9 4 (x := (4, .getfield 188, 3)) rfl
theorem dX2_numberOf_7 : decode cX2_numberOf 7 = .ok (.if_icmp .ge 21, 3) := decs_at bnc_x22_9 5 (x := (7, .if_icmp .ge 21, 3)) rfl
theorem dX2_numberOf_10 : decode cX2_numberOf 10 = .ok (.aload_n 0, 1) := decs_at bnc_x22_9 6 (x := (10, .aload_n 0, 1)) rfl
theorem dX2_numberOf_11 : decode cX2_numberOf 11 = .ok (.getfield 28, 3) := decs_at bnc_x22_9 7 (x := (11, .getfield 28, 3)) rfl
theorem dX2_numberOf_14 : decode cX2_numberOf 14 = .ok (.iload_n 2, 1) := decs_at bnc_x22_9 8 (x := (14, .iload_n 2, 1)) rfl
theorem dX2_numberOf_15 : decode cX2_numberOf 15 = .ok (.aaload, 1) := decs_at bnc_x22_9 9 (x := (15, .aaload, 1)) rfl
theorem dX2_numberOf_16 : decode cX2_numberOf 16 = .ok (.aload_n 1, 1) := decs_at bnc_x22_9 10 (x := (16, .aload_n 1, 1)) rfl
theorem dX2_numberOf_17 : decode cX2_numberOf 17 = .ok (.if_acmp .ne 5, 3) := decs_at bnc_x22_9 11 (x := (17, .if_acmp .ne 5, 3)) rfl
theorem dX2_numberOf_20 : decode cX2_numberOf 20 = .ok (.iload_n 2, 1) := decs_at bnc_x22_9 12 (x := (20, .iload_n 2, 1)) rfl
theorem dX2_numberOf_21 : decode cX2_numberOf 21 = .ok (.ireturn, 1) := decs_at bnc_x22_9 13 (x := (21, .ireturn, 1)) rfl
theorem dX2_numberOf_22 : decode cX2_numberOf 22 = .ok (.iinc 2 1, 3) := decs_at bnc_x22_9 14 (x := (22, .iinc 2 1, 3)) rfl
theorem dX2_numberOf_25 : decode cX2_numberOf 25 = .ok (.goto (-23), 3) := decs_at bnc_x22_9 15 (x := (25, .goto (-23), 3)) rfl
theorem dX2_numberOf_28 : decode cX2_numberOf 28 = .ok (.iconst (-1), 1) := decs_at bnc_x22_9 16 (x := (28, .iconst (-1), 1)) rfl
theorem dX2_numberOf_29 : decode cX2_numberOf 29 = .ok (.ireturn, 1) := decs_at bnc_x22_9 17 (x := (29, .ireturn, 1)) rfl
set_option maxRecDepth 20000 in
theorem ggX2_tellObject_X0_add : GoodIn wsX2_tellObject wsX0_add := goodIn_r _ [7, 8, 9, 10, 11, 51, 52, 53, 54] rfl (by decide +kernel)
set_option maxRecDepth 20000 in
theorem gX2_tellObject_X0_add : GoodIn wsX2_tellObject (wsV RX2 207 RX0 yX0_add wsX0_add) := goodIn_app (goodIn_r _ [3, 4, 5, 6] rfl (by decide +kernel)) ggX2_tellObject_X0_add
set_option maxRecDepth 20000 in
theorem ggX2_tellObject_X2_tellField : GoodIn wsX2_tellObject wsX2_tellField := goodIn_r _ [16, 1, 17, 18, 19, 20, 21, 22, 23, 24, 25, 26, 27, 28, 29, 30, 15, 31, 32, 3, 4, 5, 6, 7, 8, 9, 10, 11, 33, 34, 35, 36, 37, 38, 39, 40, 41, 42, 43, 44, 45, 46, 47, 48, 49, 50, 51, 52, 53, 54] rfl (by decide +kernel)
set_option maxRecDepth 20000 in
theorem gX2_tellObject_X2_tellField : GoodIn wsX2_tellObject (wsV RX2 211 RX2 yX2_tellField wsX2_tellField) := goodIn_app (goodIn_r _ [12, 13, 14, 15] rfl (by decide +kernel)) ggX2_tellObject_X2_tellField
theorem bnc_x22_10 : decs cX2_tellObject [(0, .aload_n 0, 1), (1, .getfield 28, 3), (4, .iload_n 1, 1), (5, .aaload, 1), (6, .astore_n 3, 1), (7, .aload_n 2, 1), (8, .iload_n 1, 1), (9, .iconst (-1), 1), (10, .aload_n 3, 1), (11, .getfield 45, 3), (14, .i2l, 1), (15, .invokevirtual 207, 3), (18, .istore 4, 2), (20, .iconst 0, 1), (21, .istore 5, 2), (23, .iload 5, 2), (25, .bipush 17, 2), (27, .if_icmp .ge 24, 3), (30, .iload 4, 2), (32, .ifCond .eq 19, 3), (35, .aload_n 0, 1), (36, .iload_n 1, 1), (37, .iload 5, 2), (39, .aload_n 2, 1)] = true := by decide +kernel
theorem dX2_tellObject_0 : decode cX2_tellObject 0 = .ok (.aload_n 0, 1) := decs_at bnc_x22_10 0 (x := (0, .aload_n 0, 1)) rfl
theorem dX2_tellObject_1 : decode cX2_tellObject 1 = .ok (.getfield 28, 3) := decs_at bnc_x22_10 1 (x := (1, .getfield 28, 3)) rfl
theorem dX2_tellObject_4 : decode cX2_tellObject 4 = .ok (.iload_n 1, 1) := decs_at bnc_x22_10 2 (x := (4, .iload_n 1, 1)) rfl
theorem dX2_tellObject_5 : decode cX2_tellObject 5 = .ok (.aaload, 1) := decs_at bnc_x22_10 3 (x := (5, .aaload, 1)) rfl
theorem dX2_tellObject_6 : decode cX2_tellObject 6 = .ok (.astore_n 3, 1) := decs_at bnc_x22_10 4 (x := (6, .astore_n 3, 1)) rfl
theorem dX2_tellObject_7 : decode cX2_tellObject 7 = .ok (.aload_n 2, 1) := decs_at bnc_x22_10 5 (x := (7, .aload_n 2, 1)) rfl
theorem dX2_tellObject_8 : decode cX2_tellObject 8 = .ok (.iload_n 1, 1) := decs_at bnc_x22_10 6 (x := (8, .iload_n 1, 1)) rfl
theorem dX2_tellObject_9 : decode cX2_tellObject 9 = .ok (.iconst (-1), 1) := decs_at bnc_x22_10 7 (x := (9, .iconst (-1), 1)) rfl
theorem dX2_tellObject_10 : decode cX2_tellObject 10 = .ok (.aload_n 3, 1) := decs_at bnc_x22_10 8 (x := (10, .aload_n 3, 1)) rfl
theorem dX2_tellObject_11 : decode cX2_tellObject 11 = .ok (.getfield 45, 3) := decs_at bnc_x22_10 9 (x := (11, .getfield 45, 3)) rfl
theorem dX2_tellObject_14 : decode cX2_tellObject 14 = .ok (.i2l, 1) := decs_at bnc_x22_10 10 (x := (14, .i2l, 1)) rfl
theorem dX2_tellObject_15 : decode cX2_tellObject 15 = .ok (.invokevirtual 207, 3) := decs_at bnc_x22_10 11 (x := (15, .invokevirtual 207, 3)) rfl
theorem dX2_tellObject_18 : decode cX2_tellObject 18 = .ok (.istore 4, 2) := decs_at bnc_x22_10 12 (x := (18, .istore 4, 2)) rfl
theorem dX2_tellObject_20 : decode cX2_tellObject 20 = .ok (.iconst 0, 1) := decs_at bnc_x22_10 13 (x := (20, .iconst 0, 1)) rfl
theorem dX2_tellObject_21 : decode cX2_tellObject 21 = .ok (.istore 5, 2) := decs_at bnc_x22_10 14 (x := (21, .istore 5, 2)) rfl
theorem dX2_tellObject_23 : decode cX2_tellObject 23 = .ok (.iload 5, 2) := decs_at bnc_x22_10 15 (x := (23, .iload 5, 2)) rfl
theorem dX2_tellObject_25 : decode cX2_tellObject 25 = .ok (.bipush 17, 2) := decs_at bnc_x22_10 16 (x := (25, .bipush 17, 2)) rfl
theorem dX2_tellObject_27 : decode cX2_tellObject 27 = .ok (.if_icmp .ge 24, 3) := decs_at bnc_x22_10 17 (x := (27, .if_icmp .ge 24, 3)) rfl
theorem dX2_tellObject_30 : decode cX2_tellObject 30 = .ok (.iload 4, 2) := decs_at bnc_x22_10 18 (x := (30, .iload 4, 2)) rfl
theorem dX2_tellObject_32 : decode cX2_tellObject 32 = .ok (.ifCond .eq 19, 3) := decs_at bnc_x22_10 19 (x := (32, .ifCond .eq 19, 3)) rfl
theorem dX2_tellObject_35 : decode cX2_tellObject 35 = .ok (.aload_n 0, 1) := decs_at bnc_x22_10 20 (x := (35, .aload_n 0, 1)) rfl
theorem dX2_tellObject_36 : decode cX2_tellObject 36 = .ok (.iload_n 1, 1) := decs_at bnc_x22_10 21 (x := (36, .iload_n 1, 1)) rfl
theorem dX2_tellObject_37 : decode cX2_tellObject 37 = .ok (.iload 5, 2) := decs_at bnc_x22_10 22 (x := (37, .iload 5, 2)) rfl
theorem dX2_tellObject_39 : decode cX2_tellObject 39 = .ok (.aload_n 2, 1) := decs_at bnc_x22_10 23 (x := (39, .aload_n 2, 1)) rfl
theorem bnc_x22_11 : decs cX2_tellObject [(40, .invokevirtual 211, 3), (43, .istore 4, 2), (45, .iinc 5 1, 3), (48, .goto (-25), 3), (51, .iload 4, 2), (53, .ireturn, 1)] = true := by decide +kernel
theorem dX2_tellObject_40 : decode cX2_tellObject 40 = .ok (.invokevirtual 211, 3) := decs_at bnc_x22_11 0 (x := (40, .invokevirtual 211, 3)) rfl
theorem dX2_tellObject_43 : decode cX2_tellObject 43 = .ok (.istore 4, 2) := decs_at bnc_x22_11 1 (x := (43, .istore 4, 2)) rfl
theorem dX2_tellObject_45 : decode cX2_tellObject 45 = .ok (.iinc 5 1, 3) := decs_at bnc_x22_11 2 (x := (45, .iinc 5 1, 3)) rfl
theorem dX2_tellObject_48 : decode cX2_tellObject 48 = .ok (.goto (-25), 3) := decs_at bnc_x22_11 3 (x := (48, .goto (-25), 3)) rfl
theorem dX2_tellObject_51 : decode cX2_tellObject 51 = .ok (.iload 4, 2) := decs_at bnc_x22_11 4 (x := (51, .iload 4, 2)) rfl
theorem dX2_tellObject_53 : decode cX2_tellObject 53 = .ok (.ireturn, 1) := decs_at bnc_x22_11 5 (x := (53, .ireturn, 1)) rfl
set_option maxRecDepth 20000 in
theorem ggX2_tellField_X1_held : GoodIn wsX2_tellField wsX1_held := goodIn_r _ [9, 10, 11, 12, 40, 41, 42, 43, 44, 45] rfl (by decide +kernel)
set_option maxRecDepth 20000 in
theorem gX2_tellField_X1_held : GoodIn wsX2_tellField (wsV RX2 87 RX1 yX1_held wsX1_held) := goodIn_app (goodIn_r _ [5, 6, 7, 8] rfl (by decide +kernel)) ggX2_tellField_X1_held
set_option maxRecDepth 20000 in
theorem ggX2_tellField_X2_numberOf : GoodIn wsX2_tellField wsX2_numberOf := goodIn_r _ [17, 18, 1, 31, 32, 33, 34, 35, 36, 37, 38, 39] rfl (by decide +kernel)
set_option maxRecDepth 20000 in
theorem gX2_tellField_X2_numberOf : GoodIn wsX2_tellField (wsV RX2 204 RX2 yX2_numberOf wsX2_numberOf) := goodIn_app (goodIn_r _ [13, 14, 15, 16] rfl (by decide +kernel)) ggX2_tellField_X2_numberOf
set_option maxRecDepth 20000 in
theorem ggX2_tellField_X0_add : GoodIn wsX2_tellField wsX0_add := goodIn_r _ [23, 24, 25, 26, 27, 46, 47, 48, 49] rfl (by decide +kernel)
set_option maxRecDepth 20000 in
theorem gX2_tellField_X0_add : GoodIn wsX2_tellField (wsV RX2 207 RX0 yX0_add wsX0_add) := goodIn_app (goodIn_r _ [19, 20, 21, 22] rfl (by decide +kernel)) ggX2_tellField_X0_add
set_option maxRecDepth 20000 in
theorem ggX2_tellField_X2_tellRow : GoodIn wsX2_tellField wsX2_tellRow := goodIn_r _ [30, 19, 20, 21, 22, 23, 24, 25, 26, 27, 46, 47, 48, 49] rfl (by decide +kernel)
set_option maxRecDepth 20000 in
theorem gX2_tellField_X2_tellRow : GoodIn wsX2_tellField (va_wsS RX2 215 yX2_tellRow wsX2_tellRow) := goodIn_app (goodIn_r _ [28, 29, 16] rfl (by decide +kernel)) ggX2_tellField_X2_tellRow
theorem bnc_x22_12 : decs cX2_tellField [(0, .aload_n 0, 1), (1, .getfield 28, 3), (4, .iload_n 1, 1), (5, .aaload, 1), (6, .astore 4, 2), (8, .getstatic 161, 3), (11, .iload_n 2, 1), (12, .iaload, 1), (13, .bipush 8, 2), (15, .if_icmp .ne 38, 3), (18, .aload 4, 2), (20, .iload_n 2, 1), (21, .invokevirtual 87, 3), (24, .astore 5, 2), (26, .aload 5, 2), (28, .ifnull 19, 3), (31, .aload_n 3, 1), (32, .iload_n 1, 1), (33, .iload_n 2, 1), (34, .aload_n 0, 1), (35, .aload 5, 2), (37, .invokevirtual 204, 3), (40, .i2l, 1), (41, .invokevirtual 207, 3)] = true := by decide +kernel
theorem dX2_tellField_0 : decode cX2_tellField 0 = .ok (.aload_n 0, 1) := decs_at bnc_x22_12 0 (x := (0, .aload_n 0, 1)) rfl
theorem dX2_tellField_1 : decode cX2_tellField 1 = .ok (.getfield 28, 3) := decs_at bnc_x22_12 1 (x := (1, .getfield 28, 3)) rfl
theorem dX2_tellField_4 : decode cX2_tellField 4 = .ok (.iload_n 1, 1) := decs_at bnc_x22_12 2 (x := (4, .iload_n 1, 1)) rfl
theorem dX2_tellField_5 : decode cX2_tellField 5 = .ok (.aaload, 1) := decs_at bnc_x22_12 3 (x := (5, .aaload, 1)) rfl
theorem dX2_tellField_6 : decode cX2_tellField 6 = .ok (.astore 4, 2) := decs_at bnc_x22_12 4 (x := (6, .astore 4, 2)) rfl
theorem dX2_tellField_8 : decode cX2_tellField 8 = .ok (.getstatic 161, 3) := decs_at bnc_x22_12 5 (x := (8, .getstatic 161, 3)) rfl
theorem dX2_tellField_11 : decode cX2_tellField 11 = .ok (.iload_n 2, 1) := decs_at bnc_x22_12 6 (x := (11, .iload_n 2, 1)) rfl
theorem dX2_tellField_12 : decode cX2_tellField 12 = .ok (.iaload, 1) := decs_at bnc_x22_12 7 (x := (12, .iaload, 1)) rfl
theorem dX2_tellField_13 : decode cX2_tellField 13 = .ok (.bipush 8, 2) := decs_at bnc_x22_12 8 (x := (13, .bipush 8, 2)) rfl
theorem dX2_tellField_15 : decode cX2_tellField 15 = .ok (.if_icmp .ne 38, 3) := decs_at bnc_x22_12 9 (x := (15, .if_icmp .ne 38, 3)) rfl
theorem dX2_tellField_18 : decode cX2_tellField 18 = .ok (.aload 4, 2) := decs_at bnc_x22_12 10 (x := (18, .aload 4, 2)) rfl
theorem dX2_tellField_20 : decode cX2_tellField 20 = .ok (.iload_n 2, 1) := decs_at bnc_x22_12 11 (x := (20, .iload_n 2, 1)) rfl
theorem dX2_tellField_21 : decode cX2_tellField 21 = .ok (.invokevirtual 87, 3) := decs_at bnc_x22_12 12 (x := (21, .invokevirtual 87, 3)) rfl
theorem dX2_tellField_24 : decode cX2_tellField 24 = .ok (.astore 5, 2) := decs_at bnc_x22_12 13 (x := (24, .astore 5, 2)) rfl
theorem dX2_tellField_26 : decode cX2_tellField 26 = .ok (.aload 5, 2) := decs_at bnc_x22_12 14 (x := (26, .aload 5, 2)) rfl
theorem dX2_tellField_28 : decode cX2_tellField 28 = .ok (.ifnull 19, 3) := decs_at bnc_x22_12 15 (x := (28, .ifnull 19, 3)) rfl
theorem dX2_tellField_31 : decode cX2_tellField 31 = .ok (.aload_n 3, 1) := decs_at bnc_x22_12 16 (x := (31, .aload_n 3, 1)) rfl
theorem dX2_tellField_32 : decode cX2_tellField 32 = .ok (.iload_n 1, 1) := decs_at bnc_x22_12 17 (x := (32, .iload_n 1, 1)) rfl
theorem dX2_tellField_33 : decode cX2_tellField 33 = .ok (.iload_n 2, 1) := decs_at bnc_x22_12 18 (x := (33, .iload_n 2, 1)) rfl
theorem dX2_tellField_34 : decode cX2_tellField 34 = .ok (.aload_n 0, 1) := decs_at bnc_x22_12 19 (x := (34, .aload_n 0, 1)) rfl
theorem dX2_tellField_35 : decode cX2_tellField 35 = .ok (.aload 5, 2) := decs_at bnc_x22_12 20 (x := (35, .aload 5, 2)) rfl
theorem dX2_tellField_37 : decode cX2_tellField 37 = .ok (.invokevirtual 204, 3) := decs_at bnc_x22_12 21 (x := (37, .invokevirtual 204, 3)) rfl
theorem dX2_tellField_40 : decode cX2_tellField 40 = .ok (.i2l, 1) := decs_at bnc_x22_12 22 (x := (40, .i2l, 1)) rfl
theorem dX2_tellField_41 : decode cX2_tellField 41 = .ok (.invokevirtual 207, 3) := decs_at bnc_x22_12 23 (x := (41, .invokevirtual 207, 3)) rfl
theorem bnc_x22_13 : decs cX2_tellField [(44, .ifCond .eq 7, 3), (47, .iconst 1, 1), (48, .goto 4, 3), (51, .iconst 0, 1), (52, .ireturn, 1), (53, .getstatic 161, 3), (56, .iload_n 2, 1), (57, .iaload, 1), (58, .bipush 9, 2), (60, .if_icmp .ne 30, 3), (63, .aload 4, 2), (65, .getfield 91, 3), (68, .ifnull 16, 3), (71, .iload_n 1, 1), (72, .aload 4, 2), (74, .getfield 91, 3), (77, .aload_n 3, 1), (78, .invokestatic 215, 3), (81, .ifCond .eq 7, 3), (84, .iconst 1, 1), (85, .goto 4, 3), (88, .iconst 0, 1), (89, .ireturn, 1), (90, .aload 4, 2)] = true := by decide +kernel
theorem dX2_tellField_44 : decode cX2_tellField 44 = .ok (.ifCond .eq 7, 3) := decs_at bnc_x22_13 0 (x := (44, .ifCond .eq 7, 3)) rfl
theorem dX2_tellField_47 : decode cX2_tellField 47 = .ok (.iconst 1, 1) := decs_at bnc_x22_13 1 (x := (47, .iconst 1, 1)) rfl
theorem dX2_tellField_48 : decode cX2_tellField 48 = .ok (.goto 4, 3) := decs_at bnc_x22_13 2 (x := (48, .goto 4, 3)) rfl
theorem dX2_tellField_51 : decode cX2_tellField 51 = .ok (.iconst 0, 1) := decs_at bnc_x22_13 3 (x := (51, .iconst 0, 1)) rfl
theorem dX2_tellField_52 : decode cX2_tellField 52 = .ok (.ireturn, 1) := decs_at bnc_x22_13 4 (x := (52, .ireturn, 1)) rfl
theorem dX2_tellField_53 : decode cX2_tellField 53 = .ok (.getstatic 161, 3) := decs_at bnc_x22_13 5 (x := (53, .getstatic 161, 3)) rfl
theorem dX2_tellField_56 : decode cX2_tellField 56 = .ok (.iload_n 2, 1) := decs_at bnc_x22_13 6 (x := (56, .iload_n 2, 1)) rfl
theorem dX2_tellField_57 : decode cX2_tellField 57 = .ok (.iaload, 1) := decs_at bnc_x22_13 7 (x := (57, .iaload, 1)) rfl
theorem dX2_tellField_58 : decode cX2_tellField 58 = .ok (.bipush 9, 2) := decs_at bnc_x22_13 8 (x := (58, .bipush 9, 2)) rfl
theorem dX2_tellField_60 : decode cX2_tellField 60 = .ok (.if_icmp .ne 30, 3) := decs_at bnc_x22_13 9 (x := (60, .if_icmp .ne 30, 3)) rfl
theorem dX2_tellField_63 : decode cX2_tellField 63 = .ok (.aload 4, 2) := decs_at bnc_x22_13 10 (x := (63, .aload 4, 2)) rfl
theorem dX2_tellField_65 : decode cX2_tellField 65 = .ok (.getfield 91, 3) := decs_at bnc_x22_13 11 (x := (65, .getfield 91, 3)) rfl
theorem dX2_tellField_68 : decode cX2_tellField 68 = .ok (.ifnull 16, 3) := decs_at bnc_x22_13 12 (x := (68, .ifnull 16, 3)) rfl
theorem dX2_tellField_71 : decode cX2_tellField 71 = .ok (.iload_n 1, 1) := decs_at bnc_x22_13 13 (x := (71, .iload_n 1, 1)) rfl
theorem dX2_tellField_72 : decode cX2_tellField 72 = .ok (.aload 4, 2) := decs_at bnc_x22_13 14 (x := (72, .aload 4, 2)) rfl
theorem dX2_tellField_74 : decode cX2_tellField 74 = .ok (.getfield 91, 3) := decs_at bnc_x22_13 15 (x := (74, .getfield 91, 3)) rfl
theorem dX2_tellField_77 : decode cX2_tellField 77 = .ok (.aload_n 3, 1) := decs_at bnc_x22_13 16 (x := (77, .aload_n 3, 1)) rfl
theorem dX2_tellField_78 : decode cX2_tellField 78 = .ok (.invokestatic 215, 3) := decs_at bnc_x22_13 17 (x := (78, .invokestatic 215, 3)) rfl
theorem dX2_tellField_81 : decode cX2_tellField 81 = .ok (.ifCond .eq 7, 3) := decs_at bnc_x22_13 18 (x := (81, .ifCond .eq 7, 3)) rfl
theorem dX2_tellField_84 : decode cX2_tellField 84 = .ok (.iconst 1, 1) := decs_at bnc_x22_13 19 (x := (84, .iconst 1, 1)) rfl
theorem dX2_tellField_85 : decode cX2_tellField 85 = .ok (.goto 4, 3) := decs_at bnc_x22_13 20 (x := (85, .goto 4, 3)) rfl
theorem dX2_tellField_88 : decode cX2_tellField 88 = .ok (.iconst 0, 1) := decs_at bnc_x22_13 21 (x := (88, .iconst 0, 1)) rfl
theorem dX2_tellField_89 : decode cX2_tellField 89 = .ok (.ireturn, 1) := decs_at bnc_x22_13 22 (x := (89, .ireturn, 1)) rfl
theorem dX2_tellField_90 : decode cX2_tellField 90 = .ok (.aload 4, 2) := decs_at bnc_x22_13 23 (x := (90, .aload 4, 2)) rfl
theorem bnc_x22_14 : decs cX2_tellField [(92, .getfield 65, 3), (95, .iload_n 2, 1), (96, .laload, 1), (97, .lconst 0, 1), (98, .lcmp, 1), (99, .ifCond .eq 19, 3), (102, .aload_n 3, 1), (103, .iload_n 1, 1), (104, .iload_n 2, 1), (105, .aload 4, 2), (107, .getfield 65, 3), (110, .iload_n 2, 1), (111, .laload, 1), (112, .invokevirtual 207, 3), (115, .ifCond .eq 7, 3), (118, .iconst 1, 1), (119, .goto 4, 3), (122, .iconst 0, 1), (123, .ireturn, 1)] = true := by decide +kernel
theorem dX2_tellField_92 : decode cX2_tellField 92 = .ok (.getfield 65, 3) := decs_at bnc_x22_14 0 (x := (92, .getfield 65, 3)) rfl
theorem dX2_tellField_95 : decode cX2_tellField 95 = .ok (.iload_n 2, 1) := decs_at bnc_x22_14 1 (x := (95, .iload_n 2, 1)) rfl
theorem dX2_tellField_96 : decode cX2_tellField 96 = .ok (.laload, 1) := decs_at bnc_x22_14 2 (x := (96, .laload, 1)) rfl
theorem dX2_tellField_97 : decode cX2_tellField 97 = .ok (.lconst 0, 1) := decs_at bnc_x22_14 3 (x := (97, .lconst 0, 1)) rfl
theorem dX2_tellField_98 : decode cX2_tellField 98 = .ok (.lcmp, 1) := decs_at bnc_x22_14 4 (x := (98, .lcmp, 1)) rfl
theorem dX2_tellField_99 : decode cX2_tellField 99 = .ok (.ifCond .eq 19, 3) := decs_at bnc_x22_14 5 (x := (99, .ifCond .eq 19, 3)) rfl
theorem dX2_tellField_102 : decode cX2_tellField 102 = .ok (.aload_n 3, 1) := decs_at bnc_x22_14 6 (x := (102, .aload_n 3, 1)) rfl
theorem dX2_tellField_103 : decode cX2_tellField 103 = .ok (.iload_n 1, 1) := decs_at bnc_x22_14 7 (x := (103, .iload_n 1, 1)) rfl
theorem dX2_tellField_104 : decode cX2_tellField 104 = .ok (.iload_n 2, 1) := decs_at bnc_x22_14 8 (x := (104, .iload_n 2, 1)) rfl
theorem dX2_tellField_105 : decode cX2_tellField 105 = .ok (.aload 4, 2) := decs_at bnc_x22_14 9 (x := (105, .aload 4, 2)) rfl
theorem dX2_tellField_107 : decode cX2_tellField 107 = .ok (.getfield 65, 3) := decs_at bnc_x22_14 10 (x := (107, .getfield 65, 3)) rfl
theorem dX2_tellField_110 : decode cX2_tellField 110 = .ok (.iload_n 2, 1) := decs_at bnc_x22_14 11 (x := (110, .iload_n 2, 1)) rfl
theorem dX2_tellField_111 : decode cX2_tellField 111 = .ok (.laload, 1) := decs_at bnc_x22_14 12 (x := (111, .laload, 1)) rfl
theorem dX2_tellField_112 : decode cX2_tellField 112 = .ok (.invokevirtual 207, 3) := decs_at bnc_x22_14 13 (x := (112, .invokevirtual 207, 3)) rfl
theorem dX2_tellField_115 : decode cX2_tellField 115 = .ok (.ifCond .eq 7, 3) := decs_at bnc_x22_14 14 (x := (115, .ifCond .eq 7, 3)) rfl
theorem dX2_tellField_118 : decode cX2_tellField 118 = .ok (.iconst 1, 1) := decs_at bnc_x22_14 15 (x := (118, .iconst 1, 1)) rfl
theorem dX2_tellField_119 : decode cX2_tellField 119 = .ok (.goto 4, 3) := decs_at bnc_x22_14 16 (x := (119, .goto 4, 3)) rfl
theorem dX2_tellField_122 : decode cX2_tellField 122 = .ok (.iconst 0, 1) := decs_at bnc_x22_14 17 (x := (122, .iconst 0, 1)) rfl
theorem dX2_tellField_123 : decode cX2_tellField 123 = .ok (.ireturn, 1) := decs_at bnc_x22_14 18 (x := (123, .ireturn, 1)) rfl
set_option maxRecDepth 20000 in
theorem ggX2_tellRow_X0_add : GoodIn wsX2_tellRow wsX0_add := goodIn_r _ [5, 6, 7, 8, 9, 10, 11, 12, 13] rfl (by decide +kernel)
set_option maxRecDepth 20000 in
theorem gX2_tellRow_X0_add : GoodIn wsX2_tellRow (wsV RX2 207 RX0 yX0_add wsX0_add) := goodIn_app (goodIn_r _ [1, 2, 3, 4] rfl (by decide +kernel)) ggX2_tellRow_X0_add
theorem bnc_x22_15 : decs cX2_tellRow [(0, .aload_n 2, 1), (1, .iload_n 0, 1), (2, .bipush 9, 2), (4, .aload_n 1, 1), (5, .arraylength, 1), (6, .i2l, 1), (7, .invokevirtual 207, 3), (10, .istore_n 3, 1), (11, .iconst 0, 1), (12, .istore 4, 2), (14, .iload 4, 2), (16, .aload_n 1, 1), (17, .arraylength, 1), (18, .if_icmp .ge 29, 3), (21, .iload_n 3, 1), (22, .ifCond .eq 25, 3), (25, .aload_n 2, 1), (26, .iload_n 0, 1), (27, .bipush 100, 2), (29, .iload 4, 2), (31, .iadd, 1), (32, .aload_n 1, 1), (33, .iload 4, 2), (35, .iaload, 1)] = true := by decide +kernel
theorem dX2_tellRow_0 : decode cX2_tellRow 0 = .ok (.aload_n 2, 1) := decs_at bnc_x22_15 0 (x := (0, .aload_n 2, 1)) rfl
theorem dX2_tellRow_1 : decode cX2_tellRow 1 = .ok (.iload_n 0, 1) := decs_at bnc_x22_15 1 (x := (1, .iload_n 0, 1)) rfl
theorem dX2_tellRow_2 : decode cX2_tellRow 2 = .ok (.bipush 9, 2) := decs_at bnc_x22_15 2 (x := (2, .bipush 9, 2)) rfl
theorem dX2_tellRow_4 : decode cX2_tellRow 4 = .ok (.aload_n 1, 1) := decs_at bnc_x22_15 3 (x := (4, .aload_n 1, 1)) rfl
theorem dX2_tellRow_5 : decode cX2_tellRow 5 = .ok (.arraylength, 1) := decs_at bnc_x22_15 4 (x := (5, .arraylength, 1)) rfl
theorem dX2_tellRow_6 : decode cX2_tellRow 6 = .ok (.i2l, 1) := decs_at bnc_x22_15 5 (x := (6, .i2l, 1)) rfl
theorem dX2_tellRow_7 : decode cX2_tellRow 7 = .ok (.invokevirtual 207, 3) := decs_at bnc_x22_15 6 (x := (7, .invokevirtual 207, 3)) rfl
theorem dX2_tellRow_10 : decode cX2_tellRow 10 = .ok (.istore_n 3, 1) := decs_at bnc_x22_15 7 (x := (10, .istore_n 3, 1)) rfl
theorem dX2_tellRow_11 : decode cX2_tellRow 11 = .ok (.iconst 0, 1) := decs_at bnc_x22_15 8 (x := (11, .iconst 0, 1)) rfl
theorem dX2_tellRow_12 : decode cX2_tellRow 12 = .ok (.istore 4, 2) := decs_at bnc_x22_15 9 (x := (12, .istore 4, 2)) rfl
theorem dX2_tellRow_14 : decode cX2_tellRow 14 = .ok (.iload 4, 2) := decs_at bnc_x22_15 10 (x := (14, .iload 4, 2)) rfl
theorem dX2_tellRow_16 : decode cX2_tellRow 16 = .ok (.aload_n 1, 1) := decs_at bnc_x22_15 11 (x := (16, .aload_n 1, 1)) rfl
theorem dX2_tellRow_17 : decode cX2_tellRow 17 = .ok (.arraylength, 1) := decs_at bnc_x22_15 12 (x := (17, .arraylength, 1)) rfl
theorem dX2_tellRow_18 : decode cX2_tellRow 18 = .ok (.if_icmp .ge 29, 3) := decs_at bnc_x22_15 13 (x := (18, .if_icmp .ge 29, 3)) rfl
theorem dX2_tellRow_21 : decode cX2_tellRow 21 = .ok (.iload_n 3, 1) := decs_at bnc_x22_15 14 (x := (21, .iload_n 3, 1)) rfl
theorem dX2_tellRow_22 : decode cX2_tellRow 22 = .ok (.ifCond .eq 25, 3) := decs_at bnc_x22_15 15 (x := (22, .ifCond .eq 25, 3)) rfl
theorem dX2_tellRow_25 : decode cX2_tellRow 25 = .ok (.aload_n 2, 1) := decs_at bnc_x22_15 16 (x := (25, .aload_n 2, 1)) rfl
theorem dX2_tellRow_26 : decode cX2_tellRow 26 = .ok (.iload_n 0, 1) := decs_at bnc_x22_15 17 (x := (26, .iload_n 0, 1)) rfl
theorem dX2_tellRow_27 : decode cX2_tellRow 27 = .ok (.bipush 100, 2) := decs_at bnc_x22_15 18 (x := (27, .bipush 100, 2)) rfl
theorem dX2_tellRow_29 : decode cX2_tellRow 29 = .ok (.iload 4, 2) := decs_at bnc_x22_15 19 (x := (29, .iload 4, 2)) rfl
theorem dX2_tellRow_31 : decode cX2_tellRow 31 = .ok (.iadd, 1) := decs_at bnc_x22_15 20 (x := (31, .iadd, 1)) rfl
theorem dX2_tellRow_32 : decode cX2_tellRow 32 = .ok (.aload_n 1, 1) := decs_at bnc_x22_15 21 (x := (32, .aload_n 1, 1)) rfl
theorem dX2_tellRow_33 : decode cX2_tellRow 33 = .ok (.iload 4, 2) := decs_at bnc_x22_15 22 (x := (33, .iload 4, 2)) rfl
theorem dX2_tellRow_35 : decode cX2_tellRow 35 = .ok (.iaload, 1) := decs_at bnc_x22_15 23 (x := (35, .iaload, 1)) rfl
theorem bnc_x22_16 : decs cX2_tellRow [(36, .i2l, 1), (37, .invokevirtual 207, 3), (40, .istore_n 3, 1), (41, .iinc 4 1, 3), (44, .goto (-30), 3), (47, .iload_n 3, 1), (48, .ireturn, 1)] = true := by decide +kernel
theorem dX2_tellRow_36 : decode cX2_tellRow 36 = .ok (.i2l, 1) := decs_at bnc_x22_16 0 (x := (36, .i2l, 1)) rfl
theorem dX2_tellRow_37 : decode cX2_tellRow 37 = .ok (.invokevirtual 207, 3) := decs_at bnc_x22_16 1 (x := (37, .invokevirtual 207, 3)) rfl
theorem dX2_tellRow_40 : decode cX2_tellRow 40 = .ok (.istore_n 3, 1) := decs_at bnc_x22_16 2 (x := (40, .istore_n 3, 1)) rfl
theorem dX2_tellRow_41 : decode cX2_tellRow 41 = .ok (.iinc 4 1, 3) := decs_at bnc_x22_16 3 (x := (41, .iinc 4 1, 3)) rfl
theorem dX2_tellRow_44 : decode cX2_tellRow 44 = .ok (.goto (-30), 3) := decs_at bnc_x22_16 4 (x := (44, .goto (-30), 3)) rfl
theorem dX2_tellRow_47 : decode cX2_tellRow 47 = .ok (.iload_n 3, 1) := decs_at bnc_x22_16 5 (x := (47, .iload_n 3, 1)) rfl
theorem dX2_tellRow_48 : decode cX2_tellRow 48 = .ok (.ireturn, 1) := decs_at bnc_x22_16 6 (x := (48, .ireturn, 1)) rfl
set_option maxRecDepth 20000 in
theorem ggX2_makeFromLeaves_X0_toldToMaker : GoodIn wsX2_makeFromLeaves wsX0_toldToMaker := goodIn_r _ [14, 15, 16, 17, 18, 19, 20, 21, 22, 23, 24, 25, 26, 27, 28, 29, 30, 31, 32, 33, 34, 35, 57, 58, 59, 60] rfl (by decide +kernel)
set_option maxRecDepth 20000 in
theorem gX2_makeFromLeaves_X0_toldToMaker : GoodIn wsX2_makeFromLeaves (wsV RX2 219 RX0 yX0_toldToMaker wsX0_toldToMaker) := goodIn_app (goodIn_r _ [10, 11, 12, 13] rfl (by decide +kernel)) ggX2_makeFromLeaves_X0_toldToMaker
set_option maxRecDepth 20000 in
theorem ggX2_makeFromLeaves_X2_makerTakes : GoodIn wsX2_makeFromLeaves wsX2_makerTakes := goodIn_r _ [38] rfl (by decide +kernel)
set_option maxRecDepth 20000 in
theorem gX2_makeFromLeaves_X2_makerTakes : GoodIn wsX2_makeFromLeaves (va_wsS RX2 38 yX2_makerTakes wsX2_makerTakes) := goodIn_app (goodIn_r _ [36, 37, 19] rfl (by decide +kernel)) ggX2_makeFromLeaves_X2_makerTakes
set_option maxRecDepth 20000 in
theorem ggX2_makeFromLeaves_X1_init : GoodIn wsX2_makeFromLeaves wsX1_init := goodIn_r _ [41, 42, 43, 44, 45, 46, 47, 61, 62, 63, 64, 65, 66] rfl (by decide +kernel)
set_option maxRecDepth 20000 in
theorem gX2_makeFromLeaves_X1_init : GoodIn wsX2_makeFromLeaves (wsX1_init) := ggX2_makeFromLeaves_X1_init
theorem bnc_x22_17 : decs cX2_makeFromLeaves [(0, .aload_n 0, 1), (1, .iconst 0, 1), (2, .putfield 147, 3), (5, .iconst 0, 1), (6, .istore_n 1, 1), (7, .iload_n 1, 1), (8, .aload_n 0, 1), (9, .getfield 18, 3), (12, .getfield 128, 3), (15, .if_icmp .ge 90, 3), (18, .aload_n 0, 1), (19, .getfield 147, 3), (22, .bipush 24, 2), (24, .if_icmp .ge 81, 3), (27, .aload_n 0, 1), (28, .getfield 18, 3), (31, .getfield 137, 3), (34, .iload_n 1, 1), (35, .iaload, 1), (36, .iconst (-1), 1), (37, .if_icmp .ne 62, 3), (40, .aload_n 0, 1), (41, .getfield 18, 3), (44, .getfield 140, 3)] = true := by decide +kernel
theorem dX2_makeFromLeaves_0 : decode cX2_makeFromLeaves 0 = .ok (.aload_n 0, 1) := decs_at bnc_x22_17 0 (x := (0, .aload_n 0, 1)) rfl
theorem dX2_makeFromLeaves_1 : decode cX2_makeFromLeaves 1 = .ok (.iconst 0, 1) := decs_at bnc_x22_17 1 (x := (1, .iconst 0, 1)) rfl
theorem dX2_makeFromLeaves_2 : decode cX2_makeFromLeaves 2 = .ok (.putfield 147, 3) := decs_at bnc_x22_17 2 (x := (2, .putfield 147, 3)) rfl
theorem dX2_makeFromLeaves_5 : decode cX2_makeFromLeaves 5 = .ok (.iconst 0, 1) := decs_at bnc_x22_17 3 (x := (5, .iconst 0, 1)) rfl
theorem dX2_makeFromLeaves_6 : decode cX2_makeFromLeaves 6 = .ok (.istore_n 1, 1) := decs_at bnc_x22_17 4 (x := (6, .istore_n 1, 1)) rfl
theorem dX2_makeFromLeaves_7 : decode cX2_makeFromLeaves 7 = .ok (.iload_n 1, 1) := decs_at bnc_x22_17 5 (x := (7, .iload_n 1, 1)) rfl
theorem dX2_makeFromLeaves_8 : decode cX2_makeFromLeaves 8 = .ok (.aload_n 0, 1) := decs_at bnc_x22_17 6 (x := (8, .aload_n 0, 1)) rfl
theorem dX2_makeFromLeaves_9 : decode cX2_makeFromLeaves 9 = .ok (.getfield 18, 3) := decs_at bnc_x22_17 7 (x := (9, .getfield 18, 3)) rfl
theorem dX2_makeFromLeaves_12 : decode cX2_makeFromLeaves 12 = .ok (.getfield 128, 3) := decs_at bnc_x22_17 8 (x := (12, .getfield 128, 3)) rfl
theorem dX2_makeFromLeaves_15 : decode cX2_makeFromLeaves 15 = .ok (.if_icmp .ge 90, 3) := decs_at bnc_x22_17 9 (x := (15, .if_icmp .ge 90, 3)) rfl
theorem dX2_makeFromLeaves_18 : decode cX2_makeFromLeaves 18 = .ok (.aload_n 0, 1) := decs_at bnc_x22_17 10 (x := (18, .aload_n 0, 1)) rfl
theorem dX2_makeFromLeaves_19 : decode cX2_makeFromLeaves 19 = .ok (.getfield 147, 3) := decs_at bnc_x22_17 11 (x := (19, .getfield 147, 3)) rfl
theorem dX2_makeFromLeaves_22 : decode cX2_makeFromLeaves 22 = .ok (.bipush 24, 2) := decs_at bnc_x22_17 12 (x := (22, .bipush 24, 2)) rfl
theorem dX2_makeFromLeaves_24 : decode cX2_makeFromLeaves 24 = .ok (.if_icmp .ge 81, 3) := decs_at bnc_x22_17 13 (x := (24, .if_icmp .ge 81, 3)) rfl
theorem dX2_makeFromLeaves_27 : decode cX2_makeFromLeaves 27 = .ok (.aload_n 0, 1) := decs_at bnc_x22_17 14 (x := (27, .aload_n 0, 1)) rfl
theorem dX2_makeFromLeaves_28 : decode cX2_makeFromLeaves 28 = .ok (.getfield 18, 3) := decs_at bnc_x22_17 15 (x := (28, .getfield 18, 3)) rfl
theorem dX2_makeFromLeaves_31 : decode cX2_makeFromLeaves 31 = .ok (.getfield 137, 3) := decs_at bnc_x22_17 16 (x := (31, .getfield 137, 3)) rfl
theorem dX2_makeFromLeaves_34 : decode cX2_makeFromLeaves 34 = .ok (.iload_n 1, 1) := decs_at bnc_x22_17 17 (x := (34, .iload_n 1, 1)) rfl
theorem dX2_makeFromLeaves_35 : decode cX2_makeFromLeaves 35 = .ok (.iaload, 1) := decs_at bnc_x22_17 18 (x := (35, .iaload, 1)) rfl
theorem dX2_makeFromLeaves_36 : decode cX2_makeFromLeaves 36 = .ok (.iconst (-1), 1) := decs_at bnc_x22_17 19 (x := (36, .iconst (-1), 1)) rfl
theorem dX2_makeFromLeaves_37 : decode cX2_makeFromLeaves 37 = .ok (.if_icmp .ne 62, 3) := decs_at bnc_x22_17 20 (x := (37, .if_icmp .ne 62, 3)) rfl
theorem dX2_makeFromLeaves_40 : decode cX2_makeFromLeaves 40 = .ok (.aload_n 0, 1) := decs_at bnc_x22_17 21 (x := (40, .aload_n 0, 1)) rfl
theorem dX2_makeFromLeaves_41 : decode cX2_makeFromLeaves 41 = .ok (.getfield 18, 3) := decs_at bnc_x22_17 22 (x := (41, .getfield 18, 3)) rfl
theorem dX2_makeFromLeaves_44 : decode cX2_makeFromLeaves 44 = .ok (.getfield 140, 3) := decs_at bnc_x22_17 23 (x := (44, .getfield 140, 3)) rfl
theorem bnc_x22_18 : decs cX2_makeFromLeaves [(47, .iload_n 1, 1), (48, .laload, 1), (49, .l2i, 1), (50, .istore_n 2, 1), (51, .aload_n 0, 1), (52, .getfield 18, 3), (55, .iload_n 1, 1), (56, .invokevirtual 219, 3), (59, .istore_n 3, 1), (60, .iload_n 2, 1), (61, .iload_n 3, 1), (62, .invokestatic 38, 3), (65, .ifCond .ne 6, 3), (68, .bipush (-18), 2), (70, .ireturn, 1), (71, .aload_n 0, 1), (72, .getfield 31, 3), (75, .aload_n 0, 1), (76, .getfield 147, 3), (79, .new 9, 3), (82, .dup, 1), (83, .iload_n 2, 1), (84, .iload_n 3, 1), (85, .invokespecial 42, 3)] = true := by decide +kernel
theorem dX2_makeFromLeaves_47 : decode cX2_makeFromLeaves 47 = .ok (.iload_n 1, 1) := decs_at bnc_x22_18 0 (x := (47, .iload_n 1, 1)) rfl
theorem dX2_makeFromLeaves_48 : decode cX2_makeFromLeaves 48 = .ok (.laload, 1) := decs_at bnc_x22_18 1 (x := (48, .laload, 1)) rfl
theorem dX2_makeFromLeaves_49 : decode cX2_makeFromLeaves 49 = .ok (.l2i, 1) := decs_at bnc_x22_18 2 (x := (49, .l2i, 1)) rfl
theorem dX2_makeFromLeaves_50 : decode cX2_makeFromLeaves 50 = .ok (.istore_n 2, 1) := decs_at bnc_x22_18 3 (x := (50, .istore_n 2, 1)) rfl
theorem dX2_makeFromLeaves_51 : decode cX2_makeFromLeaves 51 = .ok (.aload_n 0, 1) := decs_at bnc_x22_18 4 (x := (51, .aload_n 0, 1)) rfl
theorem dX2_makeFromLeaves_52 : decode cX2_makeFromLeaves 52 = .ok (.getfield 18, 3) := decs_at bnc_x22_18 5 (x := (52, .getfield 18, 3)) rfl
theorem dX2_makeFromLeaves_55 : decode cX2_makeFromLeaves 55 = .ok (.iload_n 1, 1) := decs_at bnc_x22_18 6 (x := (55, .iload_n 1, 1)) rfl
theorem dX2_makeFromLeaves_56 : decode cX2_makeFromLeaves 56 = .ok (.invokevirtual 219, 3) := decs_at bnc_x22_18 7 (x := (56, .invokevirtual 219, 3)) rfl
theorem dX2_makeFromLeaves_59 : decode cX2_makeFromLeaves 59 = .ok (.istore_n 3, 1) := decs_at bnc_x22_18 8 (x := (59, .istore_n 3, 1)) rfl
theorem dX2_makeFromLeaves_60 : decode cX2_makeFromLeaves 60 = .ok (.iload_n 2, 1) := decs_at bnc_x22_18 9 (x := (60, .iload_n 2, 1)) rfl
theorem dX2_makeFromLeaves_61 : decode cX2_makeFromLeaves 61 = .ok (.iload_n 3, 1) := decs_at bnc_x22_18 10 (x := (61, .iload_n 3, 1)) rfl
theorem dX2_makeFromLeaves_62 : decode cX2_makeFromLeaves 62 = .ok (.invokestatic 38, 3) := decs_at bnc_x22_18 11 (x := (62, .invokestatic 38, 3)) rfl
theorem dX2_makeFromLeaves_65 : decode cX2_makeFromLeaves 65 = .ok (.ifCond .ne 6, 3) := decs_at bnc_x22_18 12 (x := (65, .ifCond .ne 6, 3)) rfl
theorem dX2_makeFromLeaves_68 : decode cX2_makeFromLeaves 68 = .ok (.bipush (-18), 2) := decs_at bnc_x22_18 13 (x := (68, .bipush (-18), 2)) rfl
theorem dX2_makeFromLeaves_70 : decode cX2_makeFromLeaves 70 = .ok (.ireturn, 1) := decs_at bnc_x22_18 14 (x := (70, .ireturn, 1)) rfl
theorem dX2_makeFromLeaves_71 : decode cX2_makeFromLeaves 71 = .ok (.aload_n 0, 1) := decs_at bnc_x22_18 15 (x := (71, .aload_n 0, 1)) rfl
theorem dX2_makeFromLeaves_72 : decode cX2_makeFromLeaves 72 = .ok (.getfield 31, 3) := decs_at bnc_x22_18 16 (x := (72, .getfield 31, 3)) rfl
theorem dX2_makeFromLeaves_75 : decode cX2_makeFromLeaves 75 = .ok (.aload_n 0, 1) := decs_at bnc_x22_18 17 (x := (75, .aload_n 0, 1)) rfl
theorem dX2_makeFromLeaves_76 : decode cX2_makeFromLeaves 76 = .ok (.getfield 147, 3) := decs_at bnc_x22_18 18 (x := (76, .getfield 147, 3)) rfl
theorem dX2_makeFromLeaves_79 : decode cX2_makeFromLeaves 79 = .ok (.new 9, 3) := decs_at bnc_x22_18 19 (x := (79, .new 9, 3)) rfl
theorem dX2_makeFromLeaves_82 : decode cX2_makeFromLeaves 82 = .ok (.dup, 1) := decs_at bnc_x22_18 20 (x := (82, .dup, 1)) rfl
theorem dX2_makeFromLeaves_83 : decode cX2_makeFromLeaves 83 = .ok (.iload_n 2, 1) := decs_at bnc_x22_18 21 (x := (83, .iload_n 2, 1)) rfl
theorem dX2_makeFromLeaves_84 : decode cX2_makeFromLeaves 84 = .ok (.iload_n 3, 1) := decs_at bnc_x22_18 22 (x := (84, .iload_n 3, 1)) rfl
theorem dX2_makeFromLeaves_85 : decode cX2_makeFromLeaves 85 = .ok (.invokespecial 42, 3) := decs_at bnc_x22_18 23 (x := (85, .invokespecial 42, 3)) rfl
theorem bnc_x22_19 : decs cX2_makeFromLeaves [(88, .aastore, 1), (89, .aload_n 0, 1), (90, .dup, 1), (91, .getfield 147, 3), (94, .iconst 1, 1), (95, .iadd, 1), (96, .putfield 147, 3), (99, .iinc 1 1, 3), (102, .goto (-95), 3), (105, .iconst 0, 1), (106, .ireturn, 1)] = true := by decide +kernel
theorem dX2_makeFromLeaves_88 : decode cX2_makeFromLeaves 88 = .ok (.aastore, 1) := decs_at bnc_x22_19 0 (x := (88, .aastore, 1)) rfl
theorem dX2_makeFromLeaves_89 : decode cX2_makeFromLeaves 89 = .ok (.aload_n 0, 1) := decs_at bnc_x22_19 1 (x := (89, .aload_n 0, 1)) rfl
theorem dX2_makeFromLeaves_90 : decode cX2_makeFromLeaves 90 = .ok (.dup, 1) := decs_at bnc_x22_19 2 (x := (90, .dup, 1)) rfl
theorem dX2_makeFromLeaves_91 : decode cX2_makeFromLeaves 91 = .ok (.getfield 147, 3) := decs_at bnc_x22_19 3 (x := (91, .getfield 147, 3)) rfl
theorem dX2_makeFromLeaves_94 : decode cX2_makeFromLeaves 94 = .ok (.iconst 1, 1) := decs_at bnc_x22_19 4 (x := (94, .iconst 1, 1)) rfl
theorem dX2_makeFromLeaves_95 : decode cX2_makeFromLeaves 95 = .ok (.iadd, 1) := decs_at bnc_x22_19 5 (x := (95, .iadd, 1)) rfl
theorem dX2_makeFromLeaves_96 : decode cX2_makeFromLeaves 96 = .ok (.putfield 147, 3) := decs_at bnc_x22_19 6 (x := (96, .putfield 147, 3)) rfl
theorem dX2_makeFromLeaves_99 : decode cX2_makeFromLeaves 99 = .ok (.iinc 1 1, 3) := decs_at bnc_x22_19 7 (x := (99, .iinc 1 1, 3)) rfl
theorem dX2_makeFromLeaves_102 : decode cX2_makeFromLeaves 102 = .ok (.goto (-95), 3) := decs_at bnc_x22_19 8 (x := (102, .goto (-95), 3)) rfl
theorem dX2_makeFromLeaves_105 : decode cX2_makeFromLeaves 105 = .ok (.iconst 0, 1) := decs_at bnc_x22_19 9 (x := (105, .iconst 0, 1)) rfl
theorem dX2_makeFromLeaves_106 : decode cX2_makeFromLeaves 106 = .ok (.ireturn, 1) := decs_at bnc_x22_19 10 (x := (106, .ireturn, 1)) rfl
set_option maxRecDepth 20000 in
theorem ggX2_fillFromLeaves_X2_madeAs : GoodIn wsX2_fillFromLeaves wsX2_madeAs := goodIn_r _ [10, 11, 12, 72, 73, 74, 75, 76, 77, 78, 79, 80] rfl (by decide +kernel)
set_option maxRecDepth 20000 in
theorem gX2_fillFromLeaves_X2_madeAs : GoodIn wsX2_fillFromLeaves (wsV RX2 222 RX2 yX2_madeAs wsX2_madeAs) := goodIn_app (goodIn_r _ [6, 7, 8, 9] rfl (by decide +kernel)) ggX2_fillFromLeaves_X2_madeAs
set_option maxRecDepth 20000 in
theorem ggX2_fillFromLeaves_X2_fillField : GoodIn wsX2_fillFromLeaves wsX2_fillField := goodIn_r _ [16, 17, 18, 19, 20, 21, 22, 9, 23, 24, 25, 26, 27, 28, 29, 30, 31, 6, 7, 8, 10, 11, 12, 32, 33, 34, 35, 36, 37, 38, 39, 40, 41, 42, 43, 44, 45, 46, 47, 48, 49, 50, 51, 52, 53, 54, 55, 56, 57, 58, 59, 60, 61, 62, 63, 64, 65, 66, 67, 68, 69, 70, 71, 85, 86, 87, 88, 89, 90, 72, 73, 74, 75, 76, 77, 78, 79, 80] rfl (by decide +kernel)
set_option maxRecDepth 20000 in
theorem gX2_fillFromLeaves_X2_fillField : GoodIn wsX2_fillFromLeaves (wsV RX2 226 RX2 yX2_fillField wsX2_fillField) := goodIn_app (goodIn_r _ [13, 14, 15, 9] rfl (by decide +kernel)) ggX2_fillFromLeaves_X2_fillField
theorem bnc_x22_20 : decs cX2_fillFromLeaves [(0, .iconst 0, 1), (1, .istore_n 1, 1), (2, .iload_n 1, 1), (3, .aload_n 0, 1), (4, .getfield 18, 3), (7, .getfield 128, 3), (10, .if_icmp .ge 61, 3), (13, .aload_n 0, 1), (14, .aload_n 0, 1), (15, .getfield 18, 3), (18, .getfield 134, 3), (21, .iload_n 1, 1), (22, .iaload, 1), (23, .i2l, 1), (24, .invokevirtual 222, 3), (27, .astore_n 2, 1), (28, .aload_n 2, 1), (29, .ifnonnull 6, 3), (32, .bipush (-12), 2), (34, .ireturn, 1), (35, .aload_n 0, 1), (36, .aload_n 2, 1), (37, .aload_n 0, 1), (38, .getfield 18, 3)] = true := by decide +kernel
theorem dX2_fillFromLeaves_0 : decode cX2_fillFromLeaves 0 = .ok (.iconst 0, 1) := decs_at bnc_x22_20 0 (x := (0, .iconst 0, 1)) rfl
theorem dX2_fillFromLeaves_1 : decode cX2_fillFromLeaves 1 = .ok (.istore_n 1, 1) := decs_at bnc_x22_20 1 (x := (1, .istore_n 1, 1)) rfl
theorem dX2_fillFromLeaves_2 : decode cX2_fillFromLeaves 2 = .ok (.iload_n 1, 1) := decs_at bnc_x22_20 2 (x := (2, .iload_n 1, 1)) rfl
theorem dX2_fillFromLeaves_3 : decode cX2_fillFromLeaves 3 = .ok (.aload_n 0, 1) := decs_at bnc_x22_20 3 (x := (3, .aload_n 0, 1)) rfl
theorem dX2_fillFromLeaves_4 : decode cX2_fillFromLeaves 4 = .ok (.getfield 18, 3) := decs_at bnc_x22_20 4 (x := (4, .getfield 18, 3)) rfl
theorem dX2_fillFromLeaves_7 : decode cX2_fillFromLeaves 7 = .ok (.getfield 128, 3) := decs_at bnc_x22_20 5 (x := (7, .getfield 128, 3)) rfl
theorem dX2_fillFromLeaves_10 : decode cX2_fillFromLeaves 10 = .ok (.if_icmp .ge 61, 3) := decs_at bnc_x22_20 6 (x := (10, .if_icmp .ge 61, 3)) rfl
theorem dX2_fillFromLeaves_13 : decode cX2_fillFromLeaves 13 = .ok (.aload_n 0, 1) := decs_at bnc_x22_20 7 (x := (13, .aload_n 0, 1)) rfl
theorem dX2_fillFromLeaves_14 : decode cX2_fillFromLeaves 14 = .ok (.aload_n 0, 1) := decs_at bnc_x22_20 8 (x := (14, .aload_n 0, 1)) rfl
theorem dX2_fillFromLeaves_15 : decode cX2_fillFromLeaves 15 = .ok (.getfield 18, 3) := decs_at bnc_x22_20 9 (x := (15, .getfield 18, 3)) rfl
theorem dX2_fillFromLeaves_18 : decode cX2_fillFromLeaves 18 = .ok (.getfield 134, 3) := decs_at bnc_x22_20 10 (x := (18, .getfield 134, 3)) rfl
theorem dX2_fillFromLeaves_21 : decode cX2_fillFromLeaves 21 = .ok (.iload_n 1, 1) := decs_at bnc_x22_20 11 (x := (21, .iload_n 1, 1)) rfl
theorem dX2_fillFromLeaves_22 : decode cX2_fillFromLeaves 22 = .ok (.iaload, 1) := decs_at bnc_x22_20 12 (x := (22, .iaload, 1)) rfl
theorem dX2_fillFromLeaves_23 : decode cX2_fillFromLeaves 23 = .ok (.i2l, 1) := decs_at bnc_x22_20 13 (x := (23, .i2l, 1)) rfl
theorem dX2_fillFromLeaves_24 : decode cX2_fillFromLeaves 24 = .ok (.invokevirtual 222, 3) := decs_at bnc_x22_20 14 (x := (24, .invokevirtual 222, 3)) rfl
theorem dX2_fillFromLeaves_27 : decode cX2_fillFromLeaves 27 = .ok (.astore_n 2, 1) := decs_at bnc_x22_20 15 (x := (27, .astore_n 2, 1)) rfl
theorem dX2_fillFromLeaves_28 : decode cX2_fillFromLeaves 28 = .ok (.aload_n 2, 1) := decs_at bnc_x22_20 16 (x := (28, .aload_n 2, 1)) rfl
theorem dX2_fillFromLeaves_29 : decode cX2_fillFromLeaves 29 = .ok (.ifnonnull 6, 3) := decs_at bnc_x22_20 17 (x := (29, .ifnonnull 6, 3)) rfl
theorem dX2_fillFromLeaves_32 : decode cX2_fillFromLeaves 32 = .ok (.bipush (-12), 2) := decs_at bnc_x22_20 18 (x := (32, .bipush (-12), 2)) rfl
theorem dX2_fillFromLeaves_34 : decode cX2_fillFromLeaves 34 = .ok (.ireturn, 1) := decs_at bnc_x22_20 19 (x := (34, .ireturn, 1)) rfl
theorem dX2_fillFromLeaves_35 : decode cX2_fillFromLeaves 35 = .ok (.aload_n 0, 1) := decs_at bnc_x22_20 20 (x := (35, .aload_n 0, 1)) rfl
theorem dX2_fillFromLeaves_36 : decode cX2_fillFromLeaves 36 = .ok (.aload_n 2, 1) := decs_at bnc_x22_20 21 (x := (36, .aload_n 2, 1)) rfl
theorem dX2_fillFromLeaves_37 : decode cX2_fillFromLeaves 37 = .ok (.aload_n 0, 1) := decs_at bnc_x22_20 22 (x := (37, .aload_n 0, 1)) rfl
theorem dX2_fillFromLeaves_38 : decode cX2_fillFromLeaves 38 = .ok (.getfield 18, 3) := decs_at bnc_x22_20 23 (x := (38, .getfield 18, 3)) rfl
theorem bnc_x22_21 : decs cX2_fillFromLeaves [(41, .getfield 137, 3), (44, .iload_n 1, 1), (45, .iaload, 1), (46, .aload_n 0, 1), (47, .getfield 18, 3), (50, .getfield 140, 3), (53, .iload_n 1, 1), (54, .laload, 1), (55, .invokevirtual 226, 3), (58, .istore_n 3, 1), (59, .iload_n 3, 1), (60, .ifCond .eq 5, 3), (63, .iload_n 3, 1), (64, .ireturn, 1), (65, .iinc 1 1, 3), (68, .goto (-66), 3), (71, .iconst 0, 1), (72, .ireturn, 1)] = true := by decide +kernel
theorem dX2_fillFromLeaves_41 : decode cX2_fillFromLeaves 41 = .ok (.getfield 137, 3) := decs_at bnc_x22_21 0 (x := (41, .getfield 137, 3)) rfl
theorem dX2_fillFromLeaves_44 : decode cX2_fillFromLeaves 44 = .ok (.iload_n 1, 1) := decs_at bnc_x22_21 1 (x := (44, .iload_n 1, 1)) rfl
theorem dX2_fillFromLeaves_45 : decode cX2_fillFromLeaves 45 = .ok (.iaload, 1) := decs_at bnc_x22_21 2 (x := (45, .iaload, 1)) rfl
theorem dX2_fillFromLeaves_46 : decode cX2_fillFromLeaves 46 = .ok (.aload_n 0, 1) := decs_at bnc_x22_21 3 (x := (46, .aload_n 0, 1)) rfl
theorem dX2_fillFromLeaves_47 : decode cX2_fillFromLeaves 47 = .ok (.getfield 18, 3) := decs_at bnc_x22_21 4 (x := (47, .getfield 18, 3)) rfl
theorem dX2_fillFromLeaves_50 : decode cX2_fillFromLeaves 50 = .ok (.getfield 140, 3) := decs_at bnc_x22_21 5 (x := (50, .getfield 140, 3)) rfl
theorem dX2_fillFromLeaves_53 : decode cX2_fillFromLeaves 53 = .ok (.iload_n 1, 1) := decs_at bnc_x22_21 6 (x := (53, .iload_n 1, 1)) rfl
theorem dX2_fillFromLeaves_54 : decode cX2_fillFromLeaves 54 = .ok (.laload, 1) := decs_at bnc_x22_21 7 (x := (54, .laload, 1)) rfl
theorem dX2_fillFromLeaves_55 : decode cX2_fillFromLeaves 55 = .ok (.invokevirtual 226, 3) := decs_at bnc_x22_21 8 (x := (55, .invokevirtual 226, 3)) rfl
theorem dX2_fillFromLeaves_58 : decode cX2_fillFromLeaves 58 = .ok (.istore_n 3, 1) := decs_at bnc_x22_21 9 (x := (58, .istore_n 3, 1)) rfl
theorem dX2_fillFromLeaves_59 : decode cX2_fillFromLeaves 59 = .ok (.iload_n 3, 1) := decs_at bnc_x22_21 10 (x := (59, .iload_n 3, 1)) rfl
theorem dX2_fillFromLeaves_60 : decode cX2_fillFromLeaves 60 = .ok (.ifCond .eq 5, 3) := decs_at bnc_x22_21 11 (x := (60, .ifCond .eq 5, 3)) rfl
theorem dX2_fillFromLeaves_63 : decode cX2_fillFromLeaves 63 = .ok (.iload_n 3, 1) := decs_at bnc_x22_21 12 (x := (63, .iload_n 3, 1)) rfl
theorem dX2_fillFromLeaves_64 : decode cX2_fillFromLeaves 64 = .ok (.ireturn, 1) := decs_at bnc_x22_21 13 (x := (64, .ireturn, 1)) rfl
theorem dX2_fillFromLeaves_65 : decode cX2_fillFromLeaves 65 = .ok (.iinc 1 1, 3) := decs_at bnc_x22_21 14 (x := (65, .iinc 1 1, 3)) rfl
theorem dX2_fillFromLeaves_68 : decode cX2_fillFromLeaves 68 = .ok (.goto (-66), 3) := decs_at bnc_x22_21 15 (x := (68, .goto (-66), 3)) rfl
theorem dX2_fillFromLeaves_71 : decode cX2_fillFromLeaves 71 = .ok (.iconst 0, 1) := decs_at bnc_x22_21 16 (x := (71, .iconst 0, 1)) rfl
theorem dX2_fillFromLeaves_72 : decode cX2_fillFromLeaves 72 = .ok (.ireturn, 1) := decs_at bnc_x22_21 17 (x := (72, .ireturn, 1)) rfl
theorem bnc_x22_22 : decs cX2_madeAs [(0, .lload_n 1, 1), (1, .lconst 0, 1), (2, .lcmp, 1), (3, .ifCond .lt 13, 3), (6, .lload_n 1, 1), (7, .aload_n 0, 1), (8, .getfield 147, 3), (11, .i2l, 1), (12, .lcmp, 1), (13, .ifCond .lt 7, 3), (16, .aconst_null, 1), (17, .goto 10, 3), (20, .aload_n 0, 1), (21, .getfield 31, 3), (24, .lload_n 1, 1), (25, .l2i, 1), (26, .aaload, 1), (27, .areturn, 1)] = true := by decide +kernel
theorem dX2_madeAs_0 : decode cX2_madeAs 0 = .ok (.lload_n 1, 1) := decs_at bnc_x22_22 0 (x := (0, .lload_n 1, 1)) rfl
theorem dX2_madeAs_1 : decode cX2_madeAs 1 = .ok (.lconst 0, 1) := decs_at bnc_x22_22 1 (x := (1, .lconst 0, 1)) rfl
theorem dX2_madeAs_2 : decode cX2_madeAs 2 = .ok (.lcmp, 1) := decs_at bnc_x22_22 2 (x := (2, .lcmp, 1)) rfl
theorem dX2_madeAs_3 : decode cX2_madeAs 3 = .ok (.ifCond .lt 13, 3) := decs_at bnc_x22_22 3 (x := (3, .ifCond .lt 13, 3)) rfl
theorem dX2_madeAs_6 : decode cX2_madeAs 6 = .ok (.lload_n 1, 1) := decs_at bnc_x22_22 4 (x := (6, .lload_n 1, 1)) rfl
theorem dX2_madeAs_7 : decode cX2_madeAs 7 = .ok (.aload_n 0, 1) := decs_at bnc_x22_22 5 (x := (7, .aload_n 0, 1)) rfl
theorem dX2_madeAs_8 : decode cX2_madeAs 8 = .ok (.getfield 147, 3) := decs_at bnc_x22_22 6 (x := (8, .getfield 147, 3)) rfl
theorem dX2_madeAs_11 : decode cX2_madeAs 11 = .ok (.i2l, 1) := decs_at bnc_x22_22 7 (x := (11, .i2l, 1)) rfl
theorem dX2_madeAs_12 : decode cX2_madeAs 12 = .ok (.lcmp, 1) := decs_at bnc_x22_22 8 (x := (12, .lcmp, 1)) rfl
theorem dX2_madeAs_13 : decode cX2_madeAs 13 = .ok (.ifCond .lt 7, 3) := decs_at bnc_x22_22 9 (x := (13, .ifCond .lt 7, 3)) rfl
theorem dX2_madeAs_16 : decode cX2_madeAs 16 = .ok (.aconst_null, 1) := decs_at bnc_x22_22 10 (x := (16, .aconst_null, 1)) rfl
theorem dX2_madeAs_17 : decode cX2_madeAs 17 = .ok (.goto 10, 3) := decs_at bnc_x22_22 11 (x := (17, .goto 10, 3)) rfl
theorem dX2_madeAs_20 : decode cX2_madeAs 20 = .ok (.aload_n 0, 1) := decs_at bnc_x22_22 12 (x := (20, .aload_n 0, 1)) rfl
theorem dX2_madeAs_21 : decode cX2_madeAs 21 = .ok (.getfield 31, 3) := decs_at bnc_x22_22 13 (x := (21, .getfield 31, 3)) rfl
theorem dX2_madeAs_24 : decode cX2_madeAs 24 = .ok (.lload_n 1, 1) := decs_at bnc_x22_22 14 (x := (24, .lload_n 1, 1)) rfl
theorem dX2_madeAs_25 : decode cX2_madeAs 25 = .ok (.l2i, 1) := decs_at bnc_x22_22 15 (x := (25, .l2i, 1)) rfl
theorem dX2_madeAs_26 : decode cX2_madeAs 26 = .ok (.aaload, 1) := decs_at bnc_x22_22 16 (x := (26, .aaload, 1)) rfl
theorem dX2_madeAs_27 : decode cX2_madeAs 27 = .ok (.areturn, 1) := decs_at bnc_x22_22 17 (x := (27, .areturn, 1)) rfl
set_option maxRecDepth 20000 in
theorem ggX2_fillField_X2_isLinkField : GoodIn wsX2_fillField wsX2_isLinkField := goodIn_r _ [8, 9, 10, 11, 7, 12] rfl (by decide +kernel)
set_option maxRecDepth 20000 in
theorem gX2_fillField_X2_isLinkField : GoodIn wsX2_fillField (va_wsS RX2 76 yX2_isLinkField wsX2_isLinkField) := goodIn_app (goodIn_r _ [5, 6, 7] rfl (by decide +kernel)) ggX2_fillField_X2_isLinkField
set_option maxRecDepth 20000 in
theorem ggX2_fillField_X2_fillLink : GoodIn wsX2_fillField wsX2_fillLink := goodIn_r _ [16, 17, 18, 19, 7, 20, 21, 22, 23, 24, 25, 26, 27, 28, 29, 30, 31, 32, 33, 34, 35, 36, 37, 38, 69, 70, 71, 72, 73, 74, 75, 76, 77, 63, 64, 65, 66, 67, 68] rfl (by decide +kernel)
set_option maxRecDepth 20000 in
theorem gX2_fillField_X2_fillLink : GoodIn wsX2_fillField (wsV RX2 230 RX2 yX2_fillLink wsX2_fillLink) := goodIn_app (goodIn_r _ [13, 14, 15, 7] rfl (by decide +kernel)) ggX2_fillField_X2_fillLink
set_option maxRecDepth 20000 in
theorem ggX2_fillField_X2_fillPlace : GoodIn wsX2_fillField wsX2_fillPlace := goodIn_r _ [41] rfl (by decide +kernel)
set_option maxRecDepth 20000 in
theorem gX2_fillField_X2_fillPlace : GoodIn wsX2_fillField (va_wsS RX2 235 yX2_fillPlace wsX2_fillPlace) := goodIn_app (goodIn_r _ [39, 40, 7] rfl (by decide +kernel)) ggX2_fillField_X2_fillPlace
set_option maxRecDepth 20000 in
theorem ggX2_fillField_X2_isValueField : GoodIn wsX2_fillField wsX2_isValueField := goodIn_r _ [44, 9, 10, 11, 7, 12] rfl (by decide +kernel)
set_option maxRecDepth 20000 in
theorem gX2_fillField_X2_isValueField : GoodIn wsX2_fillField (va_wsS RX2 52 yX2_isValueField wsX2_isValueField) := goodIn_app (goodIn_r _ [42, 43, 7] rfl (by decide +kernel)) ggX2_fillField_X2_isValueField
set_option maxRecDepth 20000 in
theorem ggX2_fillField_X2_isFinal : GoodIn wsX2_fillField wsX2_isFinal := goodIn_r _ [47] rfl (by decide +kernel)
set_option maxRecDepth 20000 in
theorem gX2_fillField_X2_isFinal : GoodIn wsX2_fillField (va_wsS RX2 69 yX2_isFinal wsX2_isFinal) := goodIn_app (goodIn_r _ [45, 46, 7] rfl (by decide +kernel)) ggX2_fillField_X2_isFinal
set_option maxRecDepth 20000 in
theorem ggX2_fillField_X2_asTold : GoodIn wsX2_fillField wsX2_asTold := goodIn_r _ [50, 9, 51, 52, 7, 53, 54, 55, 56, 57, 58, 59, 60, 61, 62] rfl (by decide +kernel)
set_option maxRecDepth 20000 in
theorem gX2_fillField_X2_asTold : GoodIn wsX2_fillField (va_wsS RX2 72 yX2_asTold wsX2_asTold) := goodIn_app (goodIn_r _ [48, 49, 7] rfl (by decide +kernel)) ggX2_fillField_X2_asTold
theorem bnc_x22_23 : decs cX2_fillField [(0, .iload_n 2, 1), (1, .invokestatic 76, 3), (4, .ifCond .eq 11, 3), (7, .aload_n 0, 1), (8, .aload_n 1, 1), (9, .iload_n 2, 1), (10, .lload_n 3, 1), (11, .invokevirtual 230, 3), (14, .ireturn, 1), (15, .iload_n 2, 1), (16, .bipush 9, 2), (18, .if_icmp .ne 32, 3), (21, .aload_n 1, 1), (22, .lload_n 3, 1), (23, .lconst 0, 1), (24, .lcmp, 1), (25, .ifCond .lt 18, 3), (28, .lload_n 3, 1), (29, .ldc2_w 233, 3), (32, .lcmp, 1), (33, .ifCond .gt 10, 3), (36, .lload_n 3, 1), (37, .l2i, 1), (38, .newarray .int, 2)] = true := by decide +kernel
theorem dX2_fillField_0 : decode cX2_fillField 0 = .ok (.iload_n 2, 1) := decs_at bnc_x22_23 0 (x := (0, .iload_n 2, 1)) rfl
theorem dX2_fillField_1 : decode cX2_fillField 1 = .ok (.invokestatic 76, 3) := decs_at bnc_x22_23 1 (x := (1, .invokestatic 76, 3)) rfl
theorem dX2_fillField_4 : decode cX2_fillField 4 = .ok (.ifCond .eq 11, 3) := decs_at bnc_x22_23 2 (x := (4, .ifCond .eq 11, 3)) rfl
theorem dX2_fillField_7 : decode cX2_fillField 7 = .ok (.aload_n 0, 1) := decs_at bnc_x22_23 3 (x := (7, .aload_n 0, 1)) rfl
theorem dX2_fillField_8 : decode cX2_fillField 8 = .ok (.aload_n 1, 1) := decs_at bnc_x22_23 4 (x := (8, .aload_n 1, 1)) rfl
theorem dX2_fillField_9 : decode cX2_fillField 9 = .ok (.iload_n 2, 1) := decs_at bnc_x22_23 5 (x := (9, .iload_n 2, 1)) rfl
theorem dX2_fillField_10 : decode cX2_fillField 10 = .ok (.lload_n 3, 1) := decs_at bnc_x22_23 6 (x := (10, .lload_n 3, 1)) rfl
theorem dX2_fillField_11 : decode cX2_fillField 11 = .ok (.invokevirtual 230, 3) := decs_at bnc_x22_23 7 (x := (11, .invokevirtual 230, 3)) rfl
theorem dX2_fillField_14 : decode cX2_fillField 14 = .ok (.ireturn, 1) := decs_at bnc_x22_23 8 (x := (14, .ireturn, 1)) rfl
theorem dX2_fillField_15 : decode cX2_fillField 15 = .ok (.iload_n 2, 1) := decs_at bnc_x22_23 9 (x := (15, .iload_n 2, 1)) rfl
theorem dX2_fillField_16 : decode cX2_fillField 16 = .ok (.bipush 9, 2) := decs_at bnc_x22_23 10 (x := (16, .bipush 9, 2)) rfl
theorem dX2_fillField_18 : decode cX2_fillField 18 = .ok (.if_icmp .ne 32, 3) := decs_at bnc_x22_23 11 (x := (18, .if_icmp .ne 32, 3)) rfl
theorem dX2_fillField_21 : decode cX2_fillField 21 = .ok (.aload_n 1, 1) := decs_at bnc_x22_23 12 (x := (21, .aload_n 1, 1)) rfl
theorem dX2_fillField_22 : decode cX2_fillField 22 = .ok (.lload_n 3, 1) := decs_at bnc_x22_23 13 (x := (22, .lload_n 3, 1)) rfl
theorem dX2_fillField_23 : decode cX2_fillField 23 = .ok (.lconst 0, 1) := decs_at bnc_x22_23 14 (x := (23, .lconst 0, 1)) rfl
theorem dX2_fillField_24 : decode cX2_fillField 24 = .ok (.lcmp, 1) := decs_at bnc_x22_23 15 (x := (24, .lcmp, 1)) rfl
theorem dX2_fillField_25 : decode cX2_fillField 25 = .ok (.ifCond .lt 18, 3) := decs_at bnc_x22_23 16 (x := (25, .ifCond .lt 18, 3)) rfl
theorem dX2_fillField_28 : decode cX2_fillField 28 = .ok (.lload_n 3, 1) := decs_at bnc_x22_23 17 (x := (28, .lload_n 3, 1)) rfl
theorem dX2_fillField_29 : decode cX2_fillField 29 = .ok (.ldc2_w 233, 3) := decs_at bnc_x22_23 18 (x := (29, .ldc2_w 233, 3)) rfl
theorem dX2_fillField_32 : decode cX2_fillField 32 = .ok (.lcmp, 1) := decs_at bnc_x22_23 19 (x := (32, .lcmp, 1)) rfl
theorem dX2_fillField_33 : decode cX2_fillField 33 = .ok (.ifCond .gt 10, 3) := decs_at bnc_x22_23 20 (x := (33, .ifCond .gt 10, 3)) rfl
theorem dX2_fillField_36 : decode cX2_fillField 36 = .ok (.lload_n 3, 1) := decs_at bnc_x22_23 21 (x := (36, .lload_n 3, 1)) rfl
theorem dX2_fillField_37 : decode cX2_fillField 37 = .ok (.l2i, 1) := decs_at bnc_x22_23 22 (x := (37, .l2i, 1)) rfl
theorem dX2_fillField_38 : decode cX2_fillField 38 = .ok (.newarray .int, 2) := decs_at bnc_x22_23 23 (x := (38, .newarray .int, 2)) rfl
theorem bnc_x22_24 : decs cX2_fillField [(40, .goto 4, 3), (43, .aconst_null, 1), (44, .putfield 91, 3), (47, .goto 50, 3), (50, .iload_n 2, 1), (51, .bipush 100, 2), (53, .if_icmp .lt 19, 3), (56, .aload_n 1, 1), (57, .getfield 91, 3), (60, .iload_n 2, 1), (61, .bipush 100, 2), (63, .isub, 1), (64, .lload_n 3, 1), (65, .l2i, 1), (66, .invokestatic 235, 3), (69, .goto 28, 3), (72, .iload_n 2, 1), (73, .invokestatic 52, 3), (76, .ifCond .eq 21, 3), (79, .iload_n 2, 1), (80, .invokestatic 69, 3), (83, .ifCond .ne 14, 3), (86, .aload_n 1, 1), (87, .getfield 65, 3)] = true := by decide +kernel
theorem dX2_fillField_40 : decode cX2_fillField 40 = .ok (.goto 4, 3) := decs_at bnc_x22_24 0 (x := (40, .goto 4, 3)) rfl
theorem dX2_fillField_43 : decode cX2_fillField 43 = .ok (.aconst_null, 1) := decs_at bnc_x22_24 1 (x := (43, .aconst_null, 1)) rfl
theorem dX2_fillField_44 : decode cX2_fillField 44 = .ok (.putfield 91, 3) := decs_at bnc_x22_24 2 (x := (44, .putfield 91, 3)) rfl
theorem dX2_fillField_47 : decode cX2_fillField 47 = .ok (.goto 50, 3) := decs_at bnc_x22_24 3 (x := (47, .goto 50, 3)) rfl
theorem dX2_fillField_50 : decode cX2_fillField 50 = .ok (.iload_n 2, 1) := decs_at bnc_x22_24 4 (x := (50, .iload_n 2, 1)) rfl
theorem dX2_fillField_51 : decode cX2_fillField 51 = .ok (.bipush 100, 2) := decs_at bnc_x22_24 5 (x := (51, .bipush 100, 2)) rfl
theorem dX2_fillField_53 : decode cX2_fillField 53 = .ok (.if_icmp .lt 19, 3) := decs_at bnc_x22_24 6 (x := (53, .if_icmp .lt 19, 3)) rfl
theorem dX2_fillField_56 : decode cX2_fillField 56 = .ok (.aload_n 1, 1) := decs_at bnc_x22_24 7 (x := (56, .aload_n 1, 1)) rfl
theorem dX2_fillField_57 : decode cX2_fillField 57 = .ok (.getfield 91, 3) := decs_at bnc_x22_24 8 (x := (57, .getfield 91, 3)) rfl
theorem dX2_fillField_60 : decode cX2_fillField 60 = .ok (.iload_n 2, 1) := decs_at bnc_x22_24 9 (x := (60, .iload_n 2, 1)) rfl
theorem dX2_fillField_61 : decode cX2_fillField 61 = .ok (.bipush 100, 2) := decs_at bnc_x22_24 10 (x := (61, .bipush 100, 2)) rfl
theorem dX2_fillField_63 : decode cX2_fillField 63 = .ok (.isub, 1) := decs_at bnc_x22_24 11 (x := (63, .isub, 1)) rfl
theorem dX2_fillField_64 : decode cX2_fillField 64 = .ok (.lload_n 3, 1) := decs_at bnc_x22_24 12 (x := (64, .lload_n 3, 1)) rfl
theorem dX2_fillField_65 : decode cX2_fillField 65 = .ok (.l2i, 1) := decs_at bnc_x22_24 13 (x := (65, .l2i, 1)) rfl
theorem dX2_fillField_66 : decode cX2_fillField 66 = .ok (.invokestatic 235, 3) := decs_at bnc_x22_24 14 (x := (66, .invokestatic 235, 3)) rfl
theorem dX2_fillField_69 : decode cX2_fillField 69 = .ok (.goto 28, 3) := decs_at bnc_x22_24 15 (x := (69, .goto 28, 3)) rfl
theorem dX2_fillField_72 : decode cX2_fillField 72 = .ok (.iload_n 2, 1) := decs_at bnc_x22_24 16 (x := (72, .iload_n 2, 1)) rfl
theorem dX2_fillField_73 : decode cX2_fillField 73 = .ok (.invokestatic 52, 3) := decs_at bnc_x22_24 17 (x := (73, .invokestatic 52, 3)) rfl
theorem dX2_fillField_76 : decode cX2_fillField 76 = .ok (.ifCond .eq 21, 3) := decs_at bnc_x22_24 18 (x := (76, .ifCond .eq 21, 3)) rfl
theorem dX2_fillField_79 : decode cX2_fillField 79 = .ok (.iload_n 2, 1) := decs_at bnc_x22_24 19 (x := (79, .iload_n 2, 1)) rfl
theorem dX2_fillField_80 : decode cX2_fillField 80 = .ok (.invokestatic 69, 3) := decs_at bnc_x22_24 20 (x := (80, .invokestatic 69, 3)) rfl
theorem dX2_fillField_83 : decode cX2_fillField 83 = .ok (.ifCond .ne 14, 3) := decs_at bnc_x22_24 21 (x := (83, .ifCond .ne 14, 3)) rfl
theorem dX2_fillField_86 : decode cX2_fillField 86 = .ok (.aload_n 1, 1) := decs_at bnc_x22_24 22 (x := (86, .aload_n 1, 1)) rfl
theorem dX2_fillField_87 : decode cX2_fillField 87 = .ok (.getfield 65, 3) := decs_at bnc_x22_24 23 (x := (87, .getfield 65, 3)) rfl
theorem bnc_x22_25 : decs cX2_fillField [(90, .iload_n 2, 1), (91, .iload_n 2, 1), (92, .lload_n 3, 1), (93, .invokestatic 72, 3), (96, .lastore, 1), (97, .iconst 0, 1), (98, .ireturn, 1)] = true := by decide +kernel
theorem dX2_fillField_90 : decode cX2_fillField 90 = .ok (.iload_n 2, 1) := decs_at bnc_x22_25 0 (x := (90, .iload_n 2, 1)) rfl
theorem dX2_fillField_91 : decode cX2_fillField 91 = .ok (.iload_n 2, 1) := decs_at bnc_x22_25 1 (x := (91, .iload_n 2, 1)) rfl
theorem dX2_fillField_92 : decode cX2_fillField 92 = .ok (.lload_n 3, 1) := decs_at bnc_x22_25 2 (x := (92, .lload_n 3, 1)) rfl
theorem dX2_fillField_93 : decode cX2_fillField 93 = .ok (.invokestatic 72, 3) := decs_at bnc_x22_25 3 (x := (93, .invokestatic 72, 3)) rfl
theorem dX2_fillField_96 : decode cX2_fillField 96 = .ok (.lastore, 1) := decs_at bnc_x22_25 4 (x := (96, .lastore, 1)) rfl
theorem dX2_fillField_97 : decode cX2_fillField 97 = .ok (.iconst 0, 1) := decs_at bnc_x22_25 5 (x := (97, .iconst 0, 1)) rfl
theorem dX2_fillField_98 : decode cX2_fillField 98 = .ok (.ireturn, 1) := decs_at bnc_x22_25 6 (x := (98, .ireturn, 1)) rfl
set_option maxRecDepth 20000 in
theorem ggX2_fillLink_X2_madeAs : GoodIn wsX2_fillLink wsX2_madeAs := goodIn_r _ [5, 6, 7, 24, 25, 26, 27, 28, 29, 30, 31, 32] rfl (by decide +kernel)
set_option maxRecDepth 20000 in
theorem gX2_fillLink_X2_madeAs : GoodIn wsX2_fillLink (wsV RX2 222 RX2 yX2_madeAs wsX2_madeAs) := goodIn_app (goodIn_r _ [1, 2, 3, 4] rfl (by decide +kernel)) ggX2_fillLink_X2_madeAs
set_option maxRecDepth 20000 in
theorem ggX2_fillLink_X2_wantedIn : GoodIn wsX2_fillLink wsX2_wantedIn := goodIn_r _ [10] rfl (by decide +kernel)
set_option maxRecDepth 20000 in
theorem gX2_fillLink_X2_wantedIn : GoodIn wsX2_fillLink (va_wsS RX2 79 yX2_wantedIn wsX2_wantedIn) := goodIn_app (goodIn_r _ [8, 9, 4] rfl (by decide +kernel)) ggX2_fillLink_X2_wantedIn
set_option maxRecDepth 20000 in
theorem ggX2_fillLink_X1_isOf : GoodIn wsX2_fillLink wsX1_isOf := goodIn_r _ [15, 16, 33, 34, 35, 36, 37, 38] rfl (by decide +kernel)
set_option maxRecDepth 20000 in
theorem gX2_fillLink_X1_isOf : GoodIn wsX2_fillLink (wsV RX2 49 RX1 yX1_isOf wsX1_isOf) := goodIn_app (goodIn_r _ [11, 12, 13, 14] rfl (by decide +kernel)) ggX2_fillLink_X1_isOf
set_option maxRecDepth 20000 in
theorem ggX2_fillLink_X1_hold : GoodIn wsX2_fillLink wsX1_hold := goodIn_r _ [20, 21, 22, 23, 33, 34, 35, 36, 37, 38] rfl (by decide +kernel)
set_option maxRecDepth 20000 in
theorem gX2_fillLink_X1_hold : GoodIn wsX2_fillLink (wsV RX2 83 RX1 yX1_hold wsX1_hold) := goodIn_app (goodIn_r _ [17, 18, 19, 14] rfl (by decide +kernel)) ggX2_fillLink_X1_hold
theorem bnc_x22_26 : decs cX2_fillLink [(0, .aload_n 0, 1), (1, .lload_n 3, 1), (2, .invokevirtual 222, 3), (5, .astore 5, 2), (7, .aload 5, 2), (9, .ifnonnull 6, 3), (12, .bipush (-12), 2), (14, .ireturn, 1), (15, .aload 5, 2), (17, .iload_n 2, 1), (18, .invokestatic 79, 3), (21, .invokevirtual 49, 3), (24, .ifCond .ne 6, 3), (27, .bipush (-14), 2), (29, .ireturn, 1), (30, .aload_n 1, 1), (31, .iload_n 2, 1), (32, .aload 5, 2), (34, .invokevirtual 83, 3), (37, .iconst 0, 1), (38, .ireturn, 1)] = true := by decide +kernel
theorem dX2_fillLink_0 : decode cX2_fillLink 0 = .ok (.aload_n 0, 1) := decs_at bnc_x22_26 0 (x := (0, .aload_n 0, 1)) rfl
theorem dX2_fillLink_1 : decode cX2_fillLink 1 = .ok (.lload_n 3, 1) := decs_at bnc_x22_26 1 (x := (1, .lload_n 3, 1)) rfl
theorem dX2_fillLink_2 : decode cX2_fillLink 2 = .ok (.invokevirtual 222, 3) := decs_at bnc_x22_26 2 (x := (2, .invokevirtual 222, 3)) rfl
theorem dX2_fillLink_5 : decode cX2_fillLink 5 = .ok (.astore 5, 2) := decs_at bnc_x22_26 3 (x := (5, .astore 5, 2)) rfl
theorem dX2_fillLink_7 : decode cX2_fillLink 7 = .ok (.aload 5, 2) := decs_at bnc_x22_26 4 (x := (7, .aload 5, 2)) rfl
theorem dX2_fillLink_9 : decode cX2_fillLink 9 = .ok (.ifnonnull 6, 3) := decs_at bnc_x22_26 5 (x := (9, .ifnonnull 6, 3)) rfl
theorem dX2_fillLink_12 : decode cX2_fillLink 12 = .ok (.bipush (-12), 2) := decs_at bnc_x22_26 6 (x := (12, .bipush (-12), 2)) rfl
theorem dX2_fillLink_14 : decode cX2_fillLink 14 = .ok (.ireturn, 1) := decs_at bnc_x22_26 7 (x := (14, .ireturn, 1)) rfl
theorem dX2_fillLink_15 : decode cX2_fillLink 15 = .ok (.aload 5, 2) := decs_at bnc_x22_26 8 (x := (15, .aload 5, 2)) rfl
theorem dX2_fillLink_17 : decode cX2_fillLink 17 = .ok (.iload_n 2, 1) := decs_at bnc_x22_26 9 (x := (17, .iload_n 2, 1)) rfl
theorem dX2_fillLink_18 : decode cX2_fillLink 18 = .ok (.invokestatic 79, 3) := decs_at bnc_x22_26 10 (x := (18, .invokestatic 79, 3)) rfl
theorem dX2_fillLink_21 : decode cX2_fillLink 21 = .ok (.invokevirtual 49, 3) := decs_at bnc_x22_26 11 (x := (21, .invokevirtual 49, 3)) rfl
theorem dX2_fillLink_24 : decode cX2_fillLink 24 = .ok (.ifCond .ne 6, 3) := decs_at bnc_x22_26 12 (x := (24, .ifCond .ne 6, 3)) rfl
theorem dX2_fillLink_27 : decode cX2_fillLink 27 = .ok (.bipush (-14), 2) := decs_at bnc_x22_26 13 (x := (27, .bipush (-14), 2)) rfl
theorem dX2_fillLink_29 : decode cX2_fillLink 29 = .ok (.ireturn, 1) := decs_at bnc_x22_26 14 (x := (29, .ireturn, 1)) rfl
theorem dX2_fillLink_30 : decode cX2_fillLink 30 = .ok (.aload_n 1, 1) := decs_at bnc_x22_26 15 (x := (30, .aload_n 1, 1)) rfl
theorem dX2_fillLink_31 : decode cX2_fillLink 31 = .ok (.iload_n 2, 1) := decs_at bnc_x22_26 16 (x := (31, .iload_n 2, 1)) rfl
theorem dX2_fillLink_32 : decode cX2_fillLink 32 = .ok (.aload 5, 2) := decs_at bnc_x22_26 17 (x := (32, .aload 5, 2)) rfl
theorem dX2_fillLink_34 : decode cX2_fillLink 34 = .ok (.invokevirtual 83, 3) := decs_at bnc_x22_26 18 (x := (34, .invokevirtual 83, 3)) rfl
theorem dX2_fillLink_37 : decode cX2_fillLink 37 = .ok (.iconst 0, 1) := decs_at bnc_x22_26 19 (x := (37, .iconst 0, 1)) rfl
theorem dX2_fillLink_38 : decode cX2_fillLink 38 = .ok (.ireturn, 1) := decs_at bnc_x22_26 20 (x := (38, .ireturn, 1)) rfl

theorem bnc_x22_27 : decs cX2_fillPlace [(0, .aload_n 0, 1), (1, .ifnull 13, 3), (4, .iload_n 1, 1), (5, .aload_n 0, 1), (6, .arraylength, 1), (7, .if_icmp .ge 7, 3), (10, .aload_n 0, 1), (11, .iload_n 1, 1), (12, .iload_n 2, 1), (13, .iastore, 1), (14, .return_, 1)] = true := by decide +kernel
theorem dX2_fillPlace_0 : decode cX2_fillPlace 0 = .ok (.aload_n 0, 1) := decs_at bnc_x22_27 0 (x := (0, .aload_n 0, 1)) rfl
theorem dX2_fillPlace_1 : decode cX2_fillPlace 1 = .ok (.ifnull 13, 3) := decs_at bnc_x22_27 1 (x := (1, .ifnull 13, 3)) rfl
theorem dX2_fillPlace_4 : decode cX2_fillPlace 4 = .ok (.iload_n 1, 1) := decs_at bnc_x22_27 2 (x := (4, .iload_n 1, 1)) rfl
theorem dX2_fillPlace_5 : decode cX2_fillPlace 5 = .ok (.aload_n 0, 1) := decs_at bnc_x22_27 3 (x := (5, .aload_n 0, 1)) rfl
theorem dX2_fillPlace_6 : decode cX2_fillPlace 6 = .ok (.arraylength, 1) := decs_at bnc_x22_27 4 (x := (6, .arraylength, 1)) rfl
theorem dX2_fillPlace_7 : decode cX2_fillPlace 7 = .ok (.if_icmp .ge 7, 3) := decs_at bnc_x22_27 5 (x := (7, .if_icmp .ge 7, 3)) rfl
theorem dX2_fillPlace_10 : decode cX2_fillPlace 10 = .ok (.aload_n 0, 1) := decs_at bnc_x22_27 6 (x := (10, .aload_n 0, 1)) rfl
theorem dX2_fillPlace_11 : decode cX2_fillPlace 11 = .ok (.iload_n 1, 1) := decs_at bnc_x22_27 7 (x := (11, .iload_n 1, 1)) rfl
theorem dX2_fillPlace_12 : decode cX2_fillPlace 12 = .ok (.iload_n 2, 1) := decs_at bnc_x22_27 8 (x := (12, .iload_n 2, 1)) rfl
theorem dX2_fillPlace_13 : decode cX2_fillPlace 13 = .ok (.iastore, 1) := decs_at bnc_x22_27 9 (x := (13, .iastore, 1)) rfl
theorem dX2_fillPlace_14 : decode cX2_fillPlace 14 = .ok (.return_, 1) := decs_at bnc_x22_27 10 (x := (14, .return_, 1)) rfl