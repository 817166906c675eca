theorem bnc_x20_0 : decs cX2_init [(0, .aload_n 0, 1), (1, .invokespecial 1, 3), (4, .aload_n 0, 1), (5, .bipush 12, 2), (7, .anewarray 9, 3), (10, .putfield 11, 3), (13, .aload_n 0, 1), (14, .new 15, 3), (17, .dup, 1), (18, .invokespecial 17, 3), (21, .putfield 18, 3), (24, .aload_n 0, 1), (25, .new 15, 3), (28, .dup, 1), (29, .invokespecial 17, 3), (32, .putfield 22, 3), (35, .aload_n 0, 1), (36, .new 15, 3), (39, .dup, 1), (40, .invokespecial 17, 3), (43, .putfield 25, 3), (46, .aload_n 0, 1), (47, .bipush 24, 2), (49, .anewarray 9, 3)] = true := by decide +kernel
theorem dX2_init_0 : decode cX2_init 0 = .ok (.aload_n 0, 1) := decs_at bnc_x20_0 0 (x := (0, .aload_n 0, 1)) rfl
theorem dX2_init_1 : decode cX2_init 1 = .ok (.invokespecial 1, 3) := decs_at bnc_x20_0 1 (x := (1, .invokespecial 1, 3)) rfl
theorem dX2_init_4 : decode cX2_init 4 = .ok (.aload_n 0, 1) := decs_at bnc_x20_0 2 (x := (4, .aload_n 0, 1)) rfl
theorem dX2_init_5 : decode cX2_init 5 = .ok (.bipush 12, 2) := decs_at bnc_x20_0 3 (x := (5, .bipush 12, 2)) rfl
theorem dX2_init_7 : decode cX2_init 7 = .ok (.anewarray 9, 3) := decs_at bnc_x20_0 4 (x := (7, .anewarray 9, 3)) rfl
theorem dX2_init_10 : decode cX2_init 10 = .ok (.putfield 11, 3) := decs_at bnc_x20_0 5 (x := (10, .putfield 11, 3)) rfl
theorem dX2_init_13 : decode cX2_init 13 = .ok (.aload_n 0, 1) := decs_at bnc_x20_0 6 (x := (13, .aload_n 0, 1)) rfl
theorem dX2_init_14 : decode cX2_init 14 = .ok (.new 15, 3) := decs_at bnc_x20_0 7 (x := (14, .new 15, 3)) rfl
theorem dX2_init_17 : decode cX2_init 17 = .ok (.dup, 1) := decs_at bnc_x20_0 8 (x := (17, .dup, 1)) rfl
theorem dX2_init_18 : decode cX2_init 18 = .ok (.invokespecial 17, 3) := decs_at bnc_x20_0 9 (x := (18, .invokespecial 17, 3)) rfl
theorem dX2_init_21 : decode cX2_init 21 = .ok (.putfield 18, 3) := decs_at bnc_x20_0 10 (x := (21, .putfield 18, 3)) rfl
theorem dX2_init_24 : decode cX2_init 24 = .ok (.aload_n 0, 1) := decs_at bnc_x20_0 11 (x := (24, .aload_n 0, 1)) rfl
theorem dX2_init_25 : decode cX2_init 25 = .ok (.new 15, 3) := decs_at bnc_x20_0 12 (x := (25, .new 15, 3)) rfl
theorem dX2_init_28 : decode cX2_init 28 = .ok (.dup, 1) := decs_at bnc_x20_0 13 (x := (28, .dup, 1)) rfl
theorem dX2_init_29 : decode cX2_init 29 = .ok (.invokespecial 17, 3) := decs_at bnc_x20_0 14 (x := (29, .invokespecial 17, 3)) rfl
theorem dX2_init_32 : decode cX2_init 32 = .ok (.putfield 22, 3) := decs_at bnc_x20_0 15 (x := (32, .putfield 22, 3)) rfl
theorem dX2_init_35 : decode cX2_init 35 = .ok (.aload_n 0, 1) := decs_at bnc_x20_0 16 (x := (35, .aload_n 0, 1)) rfl
theorem dX2_init_36 : decode cX2_init 36 = .ok (.new 15, 3) := decs_at bnc_x20_0 17 (x := (36, .new 15, 3)) rfl
theorem dX2_init_39 : decode cX2_init 39 = .ok (.dup, 1) := decs_at bnc_x20_0 18 (x := (39, .dup, 1)) rfl
theorem dX2_init_40 : decode cX2_init 40 = .ok (.invokespecial 17, 3) := decs_at bnc_x20_0 19 (x := (40, .invokespecial 17, 3)) rfl
theorem dX2_init_43 : decode cX2_init 43 = .ok (.putfield 25, 3) := decs_at bnc_x20_0 20 (x := (43, .putfield 25, 3)) rfl
theorem dX2_init_46 : decode cX2_init 46 = .ok (.aload_n 0, 1) := decs_at bnc_x20_0 21 (x := (46, .aload_n 0, 1)) rfl
theorem dX2_init_47 : decode cX2_init 47 = .ok (.bipush 24, 2) := decs_at bnc_x20_0 22 (x := (47, .bipush 24, 2)) rfl
theorem dX2_init_49 : decode cX2_init 49 = .ok (.anewarray 9, 3) := decs_at bnc_x20_0 23 (x := (49, .anewarray 9, 3)) rfl
theorem bnc_x20_1 : decs cX2_init [(52, .putfield 28, 3), (55, .aload_n 0, 1), (56, .bipush 24, 2), (58, .anewarray 9, 3), (61, .putfield 31, 3), (64, .return_, 1)] = true := by decide +kernel
theorem dX2_init_52 : decode cX2_init 52 = .ok (.putfield 28, 3) := decs_at bnc_x20_1 0 (x := (52, .putfield 28, 3)) rfl
theorem dX2_init_55 : decode cX2_init 55 = .ok (.aload_n 0, 1) := decs_at bnc_x20_1 1 (x := (55, .aload_n 0, 1)) rfl
theorem dX2_init_56 : decode cX2_init 56 = .ok (.bipush 24, 2) := decs_at bnc_x20_1 2 (x := (56, .bipush 24, 2)) rfl
theorem dX2_init_58 : decode cX2_init 58 = .ok (.anewarray 9, 3) := decs_at bnc_x20_1 3 (x := (58, .anewarray 9, 3)) rfl
theorem dX2_init_61 : decode cX2_init 61 = .ok (.putfield 31, 3) := decs_at bnc_x20_1 4 (x := (61, .putfield 31, 3)) rfl
theorem dX2_init_64 : decode cX2_init 64 = .ok (.return_, 1) := decs_at bnc_x20_1 5 (x := (64, .return_, 1)) rfl
set_option maxRecDepth 20000 in
theorem ggX2_make_X2_isSlot : GoodIn wsX2_make wsX2_isSlot := goodIn_r _ [8] rfl (by decide +kernel)
set_option maxRecDepth 20000 in
theorem gX2_make_X2_isSlot : GoodIn wsX2_make (va_wsS RX2 34 yX2_isSlot wsX2_isSlot) := goodIn_app (goodIn_r _ [5, 6, 7] rfl (by decide +kernel)) ggX2_make_X2_isSlot
set_option maxRecDepth 20000 in
theorem ggX2_make_X2_makerTakes : GoodIn wsX2_make wsX2_makerTakes := goodIn_r _ [11] rfl (by decide +kernel)
set_option maxRecDepth 20000 in
theorem gX2_make_X2_makerTakes : GoodIn wsX2_make (va_wsS RX2 38 yX2_makerTakes wsX2_makerTakes) := goodIn_app (goodIn_r _ [9, 10, 7] rfl (by decide +kernel)) ggX2_make_X2_makerTakes
set_option maxRecDepth 20000 in
theorem ggX2_make_X1_init : GoodIn wsX2_make wsX1_init := goodIn_r _ [14, 15, 16, 17, 18, 19, 20, 30, 31, 32, 33, 34, 35] rfl (by decide +kernel)
set_option maxRecDepth 20000 in
theorem gX2_make_X1_init : GoodIn wsX2_make (wsX1_init) := ggX2_make_X1_init
theorem bnc_x20_2 : decs cX2_make [(0, .iload_n 1, 1), (1, .invokestatic 34, 3), (4, .ifCond .eq 12, 3), (7, .iload_n 2, 1), (8, .ifCond .lt 8, 3), (11, .iload_n 2, 1), (12, .iconst 4, 1), (13, .if_icmp .le 5, 3), (16, .iconst (-1), 1), (17, .ireturn, 1), (18, .iload_n 2, 1), (19, .iload_n 3, 1), (20, .invokestatic 38, 3), (23, .ifCond .ne 6, 3), (26, .bipush (-18), 2), (28, .ireturn, 1), (29, .aload_n 0, 1), (30, .getfield 11, 3), (33, .iload_n 1, 1), (34, .new 9, 3), (37, .dup, 1), (38, .iload_n 2, 1), (39, .iload_n 3, 1), (40, .invokespecial 42, 3)] = true := by decide +kernel
theorem dX2_make_0 : decode cX2_make 0 = .ok (.iload_n 1, 1) := decs_at bnc_x20_2 0 (x := (0, .iload_n 1, 1)) rfl
theorem dX2_make_1 : decode cX2_make 1 = .ok (.invokestatic 34, 3) := decs_at bnc_x20_2 1 (x := (1, .invokestatic 34, 3)) rfl
theorem dX2_make_4 : decode cX2_make 4 = .ok (.ifCond .eq 12, 3) := decs_at bnc_x20_2 2 (x := (4, .ifCond .eq 12, 3)) rfl
theorem dX2_make_7 : decode cX2_make 7 = .ok (.iload_n 2, 1) := decs_at bnc_x20_2 3 (x := (7, .iload_n 2, 1)) rfl
theorem dX2_make_8 : decode cX2_make 8 = .ok (.ifCond .lt 8, 3) := decs_at bnc_x20_2 4 (x := (8, .ifCond .lt 8, 3)) rfl
theorem dX2_make_11 : decode cX2_make 11 = .ok (.iload_n 2, 1) := decs_at bnc_x20_2 5 (x := (11, .iload_n 2, 1)) rfl
theorem dX2_make_12 : decode cX2_make 12 = .ok (.iconst 4, 1) := decs_at bnc_x20_2 6 (x := (12, .iconst 4, 1)) rfl
theorem dX2_make_13 : decode cX2_make 13 = .ok (.if_icmp .le 5, 3) := decs_at bnc_x20_2 7 (x := (13, .if_icmp .le 5, 3)) rfl
theorem dX2_make_16 : decode cX2_make 16 = .ok (.iconst (-1), 1) := decs_at bnc_x20_2 8 (x := (16, .iconst (-1), 1)) rfl
theorem dX2_make_17 : decode cX2_make 17 = .ok (.ireturn, 1) := decs_at bnc_x20_2 9 (x := (17, .ireturn, 1)) rfl
theorem dX2_make_18 : decode cX2_make 18 = .ok (.iload_n 2, 1) := decs_at bnc_x20_2 10 (x := (18, .iload_n 2, 1)) rfl
theorem dX2_make_19 : decode cX2_make 19 = .ok (.iload_n 3, 1) := decs_at bnc_x20_2 11 (x := (19, .iload_n 3, 1)) rfl
theorem dX2_make_20 : decode cX2_make 20 = .ok (.invokestatic 38, 3) := decs_at bnc_x20_2 12 (x := (20, .invokestatic 38, 3)) rfl
theorem dX2_make_23 : decode cX2_make 23 = .ok (.ifCond .ne 6, 3) := decs_at bnc_x20_2 13 (x := (23, .ifCond .ne 6, 3)) rfl
theorem dX2_make_26 : decode cX2_make 26 = .ok (.bipush (-18), 2) := decs_at bnc_x20_2 14 (x := (26, .bipush (-18), 2)) rfl
theorem dX2_make_28 : decode cX2_make 28 = .ok (.ireturn, 1) := decs_at bnc_x20_2 15 (x := (28, .ireturn, 1)) rfl
theorem dX2_make_29 : decode cX2_make 29 = .ok (.aload_n 0, 1) := decs_at bnc_x20_2 16 (x := (29, .aload_n 0, 1)) rfl
theorem dX2_make_30 : decode cX2_make 30 = .ok (.getfield 11, 3) := decs_at bnc_x20_2 17 (x := (30, .getfield 11, 3)) rfl
theorem dX2_make_33 : decode cX2_make 33 = .ok (.iload_n 1, 1) := decs_at bnc_x20_2 18 (x := (33, .iload_n 1, 1)) rfl
theorem dX2_make_34 : decode cX2_make 34 = .ok (.new 9, 3) := decs_at bnc_x20_2 19 (x := (34, .new 9, 3)) rfl
theorem dX2_make_37 : decode cX2_make 37 = .ok (.dup, 1) := decs_at bnc_x20_2 20 (x := (37, .dup, 1)) rfl
theorem dX2_make_38 : decode cX2_make 38 = .ok (.iload_n 2, 1) := decs_at bnc_x20_2 21 (x := (38, .iload_n 2, 1)) rfl
theorem dX2_make_39 : decode cX2_make 39 = .ok (.iload_n 3, 1) := decs_at bnc_x20_2 22 (x := (39, .iload_n 3, 1)) rfl
theorem dX2_make_40 : decode cX2_make 40 = .ok (.invokespecial 42, 3) := decs_at bnc_x20_2 23 (x := (40, .invokespecial 42, 3)) rfl
theorem bnc_x20_3 : decs cX2_make [(43, .aastore, 1), (44, .iconst 1, 1), (45, .ireturn, 1)] = true := by decide +kernel
theorem dX2_make_43 : decode cX2_make 43 = .ok (.aastore, 1) := decs_at bnc_x20_3 0 (x := (43, .aastore, 1)) rfl
theorem dX2_make_44 : decode cX2_make 44 = .ok (.iconst 1, 1) := decs_at bnc_x20_3 1 (x := (44, .iconst 1, 1)) rfl
theorem dX2_make_45 : decode cX2_make 45 = .ok (.ireturn, 1) := decs_at bnc_x20_3 2 (x := (45, .ireturn, 1)) rfl
set_option maxRecDepth 20000 in
theorem ggX2_clear_X2_isSlot : GoodIn wsX2_clear wsX2_isSlot := goodIn_r _ [5] rfl (by decide +kernel)
set_option maxRecDepth 20000 in
theorem gX2_clear_X2_isSlot : GoodIn wsX2_clear (va_wsS RX2 34 yX2_isSlot wsX2_isSlot) := goodIn_app (goodIn_r _ [2, 3, 4] rfl (by decide +kernel)) ggX2_clear_X2_isSlot
theorem bnc_x20_4 : decs cX2_clear [(0, .iload_n 1, 1), (1, .invokestatic 34, 3), (4, .ifCond .ne 5, 3), (7, .iconst (-1), 1), (8, .ireturn, 1), (9, .aload_n 0, 1), (10, .getfield 11, 3), (13, .iload_n 1, 1), (14, .aaload, 1), (15, .ifnonnull 7, 3), (18, .iconst 0, 1), (19, .goto 4, 3), (22, .iconst 1, 1), (23, .istore_n 2, 1), (24, .aload_n 0, 1), (25, .getfield 11, 3), (28, .iload_n 1, 1), (29, .aconst_null, 1), (30, .aastore, 1), (31, .iload_n 2, 1), (32, .ireturn, 1)] = true := by decide +kernel
theorem dX2_clear_0 : decode cX2_clear 0 = .ok (.iload_n 1, 1) := decs_at bnc_x20_4 0 (x := (0, .iload_n 1, 1)) rfl
theorem dX2_clear_1 : decode cX2_clear 1 = .ok (.invokestatic 34, 3) := decs_at bnc_x20_4 1 (x := (1, .invokestatic 34, 3)) rfl
theorem dX2_clear_4 : decode cX2_clear 4 = .ok (.ifCond .ne 5, 3) := decs_at bnc_x20_4 2 (x := (4, .ifCond .ne 5, 3)) rfl
theorem dX2_clear_7 : decode cX2_clear 7 = .ok (.iconst (-1), 1) := decs_at bnc_x20_4 3 (x := (7, .iconst (-1), 1)) rfl
theorem dX2_clear_8 : decode cX2_clear 8 = .ok (.ireturn, 1) := decs_at bnc_x20_4 4 (x := (8, .ireturn, 1)) rfl
theorem dX2_clear_9 : decode cX2_clear 9 = .ok (.aload_n 0, 1) := decs_at bnc_x20_4 5 (x := (9, .aload_n 0, 1)) rfl
theorem dX2_clear_10 : decode cX2_clear 10 = .ok (.getfield 11, 3) := decs_at bnc_x20_4 6 (x := (10, .getfield 11, 3)) rfl
theorem dX2_clear_13 : decode cX2_clear 13 = .ok (.iload_n 1, 1) := decs_at bnc_x20_4 7 (x := (13, .iload_n 1, 1)) rfl
theorem dX2_clear_14 : decode cX2_clear 14 = .ok (.aaload, 1) := decs_at bnc_x20_4 8 (x := (14, .aaload, 1)) rfl
theorem dX2_clear_15 : decode cX2_clear 15 = .ok (.ifnonnull 7, 3) := decs_at bnc_x20_4 9 (x := (15, .ifnonnull 7, 3)) rfl
theorem dX2_clear_18 : decode cX2_clear 18 = .ok (.iconst 0, 1) := decs_at bnc_x20_4 10 (x := (18, .iconst 0, 1)) rfl
theorem dX2_clear_19 : decode cX2_clear 19 = .ok (.goto 4, 3) := decs_at bnc_x20_4 11 (x := (19, .goto 4, 3)) rfl
theorem dX2_clear_22 : decode cX2_clear 22 = .ok (.iconst 1, 1) := decs_at bnc_x20_4 12 (x := (22, .iconst 1, 1)) rfl
theorem dX2_clear_23 : decode cX2_clear 23 = .ok (.istore_n 2, 1) := decs_at bnc_x20_4 13 (x := (23, .istore_n 2, 1)) rfl
theorem dX2_clear_24 : decode cX2_clear 24 = .ok (.aload_n 0, 1) := decs_at bnc_x20_4 14 (x := (24, .aload_n 0, 1)) rfl
theorem dX2_clear_25 : decode cX2_clear 25 = .ok (.getfield 11, 3) := decs_at bnc_x20_4 15 (x := (25, .getfield 11, 3)) rfl
theorem dX2_clear_28 : decode cX2_clear 28 = .ok (.iload_n 1, 1) := decs_at bnc_x20_4 16 (x := (28, .iload_n 1, 1)) rfl
theorem dX2_clear_29 : decode cX2_clear 29 = .ok (.aconst_null, 1) := decs_at bnc_x20_4 17 (x := (29, .aconst_null, 1)) rfl
theorem dX2_clear_30 : decode cX2_clear 30 = .ok (.aastore, 1) := decs_at bnc_x20_4 18 (x := (30, .aastore, 1)) rfl
theorem dX2_clear_31 : decode cX2_clear 31 = .ok (.iload_n 2, 1) := decs_at bnc_x20_4 19 (x := (31, .iload_n 2, 1)) rfl
theorem dX2_clear_32 : decode cX2_clear 32 = .ok (.ireturn, 1) := decs_at bnc_x20_4 20 (x := (32, .ireturn, 1)) rfl
set_option maxRecDepth 20000 in
theorem ggX2_share_X2_isSlot : GoodIn wsX2_share wsX2_isSlot := goodIn_r _ [5] rfl (by decide +kernel)
set_option maxRecDepth 20000 in
theorem gX2_share_X2_isSlot : GoodIn wsX2_share (va_wsS RX2 34 yX2_isSlot wsX2_isSlot) := goodIn_app (goodIn_r _ [2, 3, 4] rfl (by decide +kernel)) ggX2_share_X2_isSlot
theorem bnc_x20_5 : decs cX2_share [(0, .iload_n 1, 1), (1, .invokestatic 34, 3), (4, .ifCond .eq 10, 3), (7, .iload_n 2, 1), (8, .invokestatic 34, 3), (11, .ifCond .ne 5, 3), (14, .iconst (-1), 1), (15, .ireturn, 1), (16, .aload_n 0, 1), (17, .getfield 11, 3), (20, .iload_n 2, 1), (21, .aload_n 0, 1), (22, .getfield 11, 3), (25, .iload_n 1, 1), (26, .aaload, 1), (27, .aastore, 1), (28, .iconst 1, 1), (29, .ireturn, 1)] = true := by decide +kernel
theorem dX2_share_0 : decode cX2_share 0 = .ok (.iload_n 1, 1) := decs_at bnc_x20_5 0 (x := (0, .iload_n 1, 1)) rfl
theorem dX2_share_1 : decode cX2_share 1 = .ok (.invokestatic 34, 3) := decs_at bnc_x20_5 1 (x := (1, .invokestatic 34, 3)) rfl
theorem dX2_share_4 : decode cX2_share 4 = .ok (.ifCond .eq 10, 3) := decs_at bnc_x20_5 2 (x := (4, .ifCond .eq 10, 3)) rfl
theorem dX2_share_7 : decode cX2_share 7 = .ok (.iload_n 2, 1) := decs_at bnc_x20_5 3 (x := (7, .iload_n 2, 1)) rfl
theorem dX2_share_8 : decode cX2_share 8 = .ok (.invokestatic 34, 3) := decs_at bnc_x20_5 4 (x := (8, .invokestatic 34, 3)) rfl
theorem dX2_share_11 : decode cX2_share 11 = .ok (.ifCond .ne 5, 3) := decs_at bnc_x20_5 5 (x := (11, .ifCond .ne 5, 3)) rfl
theorem dX2_share_14 : decode cX2_share 14 = .ok (.iconst (-1), 1) := decs_at bnc_x20_5 6 (x := (14, .iconst (-1), 1)) rfl
theorem dX2_share_15 : decode cX2_share 15 = .ok (.ireturn, 1) := decs_at bnc_x20_5 7 (x := (15, .ireturn, 1)) rfl
theorem dX2_share_16 : decode cX2_share 16 = .ok (.aload_n 0, 1) := decs_at bnc_x20_5 8 (x := (16, .aload_n 0, 1)) rfl
theorem dX2_share_17 : decode cX2_share 17 = .ok (.getfield 11, 3) := decs_at bnc_x20_5 9 (x := (17, .getfield 11, 3)) rfl
theorem dX2_share_20 : decode cX2_share 20 = .ok (.iload_n 2, 1) := decs_at bnc_x20_5 10 (x := (20, .iload_n 2, 1)) rfl
theorem dX2_share_21 : decode cX2_share 21 = .ok (.aload_n 0, 1) := decs_at bnc_x20_5 11 (x := (21, .aload_n 0, 1)) rfl
theorem dX2_share_22 : decode cX2_share 22 = .ok (.getfield 11, 3) := decs_at bnc_x20_5 12 (x := (22, .getfield 11, 3)) rfl
theorem dX2_share_25 : decode cX2_share 25 = .ok (.iload_n 1, 1) := decs_at bnc_x20_5 13 (x := (25, .iload_n 1, 1)) rfl
theorem dX2_share_26 : decode cX2_share 26 = .ok (.aaload, 1) := decs_at bnc_x20_5 14 (x := (26, .aaload, 1)) rfl
theorem dX2_share_27 : decode cX2_share 27 = .ok (.aastore, 1) := decs_at bnc_x20_5 15 (x := (27, .aastore, 1)) rfl
theorem dX2_share_28 : decode cX2_share 28 = .ok (.iconst 1, 1) := decs_at bnc_x20_5 16 (x := (28, .iconst 1, 1)) rfl
theorem dX2_share_29 : decode cX2_share 29 = .ok (.ireturn, 1) := decs_at bnc_x20_5 17 (x := (29, .ireturn, 1)) rfl
set_option maxRecDepth 20000 in
theorem ggX2_same_X2_isSlot : GoodIn wsX2_same wsX2_isSlot := goodIn_r _ [5] rfl (by decide +kernel)
set_option maxRecDepth 20000 in
theorem gX2_same_X2_isSlot : GoodIn wsX2_same (va_wsS RX2 34 yX2_isSlot wsX2_isSlot) := goodIn_app (goodIn_r _ [2, 3, 4] rfl (by decide +kernel)) ggX2_same_X2_isSlot
theorem bnc_x20_6 : decs cX2_same [(0, .iload_n 1, 1), (1, .invokestatic 34, 3), (4, .ifCond .eq 10, 3), (7, .iload_n 2, 1), (8, .invokestatic 34, 3), (11, .ifCond .ne 5, 3), (14, .iconst (-1), 1), (15, .ireturn, 1), (16, .aload_n 0, 1), (17, .getfield 11, 3), (20, .iload_n 1, 1), (21, .aaload, 1), (22, .aload_n 0, 1), (23, .getfield 11, 3), (26, .iload_n 2, 1), (27, .aaload, 1), (28, .if_acmp .ne 7, 3), (31, .iconst 1, 1), (32, .goto 4, 3), (35, .iconst 0, 1), (36, .ireturn, 1)] = true := by decide +kernel
theorem dX2_same_0 : decode cX2_same 0 = .ok (.iload_n 1, 1) := decs_at bnc_x20_6 0 (x := (0, .iload_n 1, 1)) rfl
theorem dX2_same_1 : decode cX2_same 1 = .ok (.invokestatic 34, 3) := decs_at bnc_x20_6 1 (x := (1, .invokestatic 34, 3)) rfl
theorem dX2_same_4 : decode cX2_same 4 = .ok (.ifCond .eq 10, 3) := decs_at bnc_x20_6 2 (x := (4, .ifCond .eq 10, 3)) rfl
theorem dX2_same_7 : decode cX2_same 7 = .ok (.iload_n 2, 1) := decs_at bnc_x20_6 3 (x := (7, .iload_n 2, 1)) rfl
theorem dX2_same_8 : decode cX2_same 8 = .ok (.invokestatic 34, 3) := decs_at bnc_x20_6 4 (x := (8, .invokestatic 34, 3)) rfl
theorem dX2_same_11 : decode cX2_same 11 = .ok (.ifCond .ne 5, 3) := decs_at bnc_x20_6 5 (x := (11, .ifCond .ne 5, 3)) rfl
theorem dX2_same_14 : decode cX2_same 14 = .ok (.iconst (-1), 1) := decs_at bnc_x20_6 6 (x := (14, .iconst (-1), 1)) rfl
theorem dX2_same_15 : decode cX2_same 15 = .ok (.ireturn, 1) := decs_at bnc_x20_6 7 (x := (15, .ireturn, 1)) rfl
theorem dX2_same_16 : decode cX2_same 16 = .ok (.aload_n 0, 1) := decs_at bnc_x20_6 8 (x := (16, .aload_n 0, 1)) rfl
theorem dX2_same_17 : decode cX2_same 17 = .ok (.getfield 11, 3) := decs_at bnc_x20_6 9 (x := (17, .getfield 11, 3)) rfl
theorem dX2_same_20 : decode cX2_same 20 = .ok (.iload_n 1, 1) := decs_at bnc_x20_6 10 (x := (20, .iload_n 1, 1)) rfl
theorem dX2_same_21 : decode cX2_same 21 = .ok (.aaload, 1) := decs_at bnc_x20_6 11 (x := (21, .aaload, 1)) rfl
theorem dX2_same_22 : decode cX2_same 22 = .ok (.aload_n 0, 1) := decs_at bnc_x20_6 12 (x := (22, .aload_n 0, 1)) rfl
theorem dX2_same_23 : decode cX2_same 23 = .ok (.getfield 11, 3) := decs_at bnc_x20_6 13 (x := (23, .getfield 11, 3)) rfl
theorem dX2_same_26 : decode cX2_same 26 = .ok (.iload_n 2, 1) := decs_at bnc_x20_6 14 (x := (26, .iload_n 2, 1)) rfl
theorem dX2_same_27 : decode cX2_same 27 = .ok (.aaload, 1) := decs_at bnc_x20_6 15 (x := (27, .aaload, 1)) rfl
theorem dX2_same_28 : decode cX2_same 28 = .ok (.if_acmp .ne 7, 3) := decs_at bnc_x20_6 16 (x := (28, .if_acmp .ne 7, 3)) rfl
theorem dX2_same_31 : decode cX2_same 31 = .ok (.iconst 1, 1) := decs_at bnc_x20_6 17 (x := (31, .iconst 1, 1)) rfl
theorem dX2_same_32 : decode cX2_same 32 = .ok (.goto 4, 3) := decs_at bnc_x20_6 18 (x := (32, .goto 4, 3)) rfl
theorem dX2_same_35 : decode cX2_same 35 = .ok (.iconst 0, 1) := decs_at bnc_x20_6 19 (x := (35, .iconst 0, 1)) rfl
theorem dX2_same_36 : decode cX2_same 36 = .ok (.ireturn, 1) := decs_at bnc_x20_6 20 (x := (36, .ireturn, 1)) rfl
set_option maxRecDepth 20000 in
theorem ggX2_cls_X2_isSlot : GoodIn wsX2_cls wsX2_isSlot := goodIn_r _ [6] rfl (by decide +kernel)
set_option maxRecDepth 20000 in
theorem gX2_cls_X2_isSlot : GoodIn wsX2_cls (va_wsS RX2 34 yX2_isSlot wsX2_isSlot) := goodIn_app (goodIn_r _ [3, 4, 5] rfl (by decide +kernel)) ggX2_cls_X2_isSlot
theorem bnc_x20_7 : decs cX2_cls [(0, .iload_n 1, 1), (1, .invokestatic 34, 3), (4, .ifCond .ne 5, 3), (7, .iconst (-1), 1), (8, .ireturn, 1), (9, .aload_n 0, 1), (10, .getfield 11, 3), (13, .iload_n 1, 1), (14, .aaload, 1), (15, .astore_n 2, 1), (16, .aload_n 2, 1), (17, .ifnonnull 8, 3), (20, .bipush (-4), 2), (22, .goto 7, 3), (25, .aload_n 2, 1), (26, .getfield 45, 3), (29, .ireturn, 1)] = true := by decide +kernel
theorem dX2_cls_0 : decode cX2_cls 0 = .ok (.iload_n 1, 1) := decs_at bnc_x20_7 0 (x := (0, .iload_n 1, 1)) rfl
theorem dX2_cls_1 : decode cX2_cls 1 = .ok (.invokestatic 34, 3) := decs_at bnc_x20_7 1 (x := (1, .invokestatic 34, 3)) rfl
theorem dX2_cls_4 : decode cX2_cls 4 = .ok (.ifCond .ne 5, 3) := decs_at bnc_x20_7 2 (x := (4, .ifCond .ne 5, 3)) rfl
theorem dX2_cls_7 : decode cX2_cls 7 = .ok (.iconst (-1), 1) := decs_at bnc_x20_7 3 (x := (7, .iconst (-1), 1)) rfl
theorem dX2_cls_8 : decode cX2_cls 8 = .ok (.ireturn, 1) := decs_at bnc_x20_7 4 (x := (8, .ireturn, 1)) rfl
theorem dX2_cls_9 : decode cX2_cls 9 = .ok (.aload_n 0, 1) := decs_at bnc_x20_7 5 (x := (9, .aload_n 0, 1)) rfl
theorem dX2_cls_10 : decode cX2_cls 10 = .ok (.getfield 11, 3) := decs_at bnc_x20_7 6 (x := (10, .getfield 11, 3)) rfl
theorem dX2_cls_13 : decode cX2_cls 13 = .ok (.iload_n 1, 1) := decs_at bnc_x20_7 7 (x := (13, .iload_n 1, 1)) rfl
theorem dX2_cls_14 : decode cX2_cls 14 = .ok (.aaload, 1) := decs_at bnc_x20_7 8 (x := (14, .aaload, 1)) rfl
theorem dX2_cls_15 : decode cX2_cls 15 = .ok (.astore_n 2, 1) := decs_at bnc_x20_7 9 (x := (15, .astore_n 2, 1)) rfl
theorem dX2_cls_16 : decode cX2_cls 16 = .ok (.aload_n 2, 1) := decs_at bnc_x20_7 10 (x := (16, .aload_n 2, 1)) rfl
theorem dX2_cls_17 : decode cX2_cls 17 = .ok (.ifnonnull 8, 3) := decs_at bnc_x20_7 11 (x := (17, .ifnonnull 8, 3)) rfl
theorem dX2_cls_20 : decode cX2_cls 20 = .ok (.bipush (-4), 2) := decs_at bnc_x20_7 12 (x := (20, .bipush (-4), 2)) rfl
theorem dX2_cls_22 : decode cX2_cls 22 = .ok (.goto 7, 3) := decs_at bnc_x20_7 13 (x := (22, .goto 7, 3)) rfl
theorem dX2_cls_25 : decode cX2_cls 25 = .ok (.aload_n 2, 1) := decs_at bnc_x20_7 14 (x := (25, .aload_n 2, 1)) rfl
theorem dX2_cls_26 : decode cX2_cls 26 = .ok (.getfield 45, 3) := decs_at bnc_x20_7 15 (x := (26, .getfield 45, 3)) rfl
theorem dX2_cls_29 : decode cX2_cls 29 = .ok (.ireturn, 1) := decs_at bnc_x20_7 16 (x := (29, .ireturn, 1)) rfl
set_option maxRecDepth 20000 in
theorem ggX2_is_X2_isSlot : GoodIn wsX2_is wsX2_isSlot := goodIn_r _ [5] rfl (by decide +kernel)
set_option maxRecDepth 20000 in
theorem gX2_is_X2_isSlot : GoodIn wsX2_is (va_wsS RX2 34 yX2_isSlot wsX2_isSlot) := goodIn_app (goodIn_r _ [2, 3, 4] rfl (by decide +kernel)) ggX2_is_X2_isSlot
set_option maxRecDepth 20000 in
theorem ggX2_is_X1_isOf : GoodIn wsX2_is wsX1_isOf := goodIn_r _ [10, 11, 21, 22, 23, 24, 25, 26] rfl (by decide +kernel)
set_option maxRecDepth 20000 in
theorem gX2_is_X1_isOf : GoodIn wsX2_is (wsV RX2 49 RX1 yX1_isOf wsX1_isOf) := goodIn_app (goodIn_r _ [6, 7, 8, 9] rfl (by decide +kernel)) ggX2_is_X1_isOf
theorem bnc_x20_8 : decs cX2_is [(0, .iload_n 1, 1), (1, .invokestatic 34, 3), (4, .ifCond .eq 12, 3), (7, .iload_n 2, 1), (8, .ifCond .lt 8, 3), (11, .iload_n 2, 1), (12, .iconst 5, 1), (13, .if_icmp .le 5, 3), (16, .iconst (-1), 1), (17, .ireturn, 1), (18, .aload_n 0, 1), (19, .getfield 11, 3), (22, .iload_n 1, 1), (23, .aaload, 1), (24, .astore_n 3, 1), (25, .aload_n 3, 1), (26, .ifnull 15, 3), (29, .aload_n 3, 1), (30, .iload_n 2, 1), (31, .invokevirtual 49, 3), (34, .ifCond .eq 7, 3), (37, .iconst 1, 1), (38, .goto 4, 3), (41, .iconst 0, 1)] = true := by decide +kernel
theorem dX2_is_0 : decode cX2_is 0 = .ok (.iload_n 1, 1) := decs_at bnc_x20_8 0 (x := (0, .iload_n 1, 1)) rfl
theorem dX2_is_1 : decode cX2_is 1 = .ok (.invokestatic 34, 3) := decs_at bnc_x20_8 1 (x := (1, .invokestatic 34, 3)) rfl
theorem dX2_is_4 : decode cX2_is 4 = .ok (.ifCond .eq 12, 3) := decs_at bnc_x20_8 2 (x := (4, .ifCond .eq 12, 3)) rfl
theorem dX2_is_7 : decode cX2_is 7 = .ok (.iload_n 2, 1) := decs_at bnc_x20_8 3 (x := (7, .iload_n 2, 1)) rfl
theorem dX2_is_8 : decode cX2_is 8 = .ok (.ifCond .lt 8, 3) := decs_at bnc_x20_8 4 (x := (8, .ifCond .lt 8, 3)) rfl
theorem dX2_is_11 : decode cX2_is 11 = .ok (.iload_n 2, 1) := decs_at bnc_x20_8 5 (x := (11, .iload_n 2, 1)) rfl
theorem dX2_is_12 : decode cX2_is 12 = .ok (.iconst 5, 1) := decs_at bnc_x20_8 6 (x := (12, .iconst 5, 1)) rfl
theorem dX2_is_13 : decode cX2_is 13 = .ok (.if_icmp .le 5, 3) := decs_at bnc_x20_8 7 (x := (13, .if_icmp .le 5, 3)) rfl
theorem dX2_is_16 : decode cX2_is 16 = .ok (.iconst (-1), 1) := decs_at bnc_x20_8 8 (x := (16, .iconst (-1), 1)) rfl
theorem dX2_is_17 : decode cX2_is 17 = .ok (.ireturn, 1) := decs_at bnc_x20_8 9 (x := (17, .ireturn, 1)) rfl
theorem dX2_is_18 : decode cX2_is 18 = .ok (.aload_n 0, 1) := decs_at bnc_x20_8 10 (x := (18, .aload_n 0, 1)) rfl
theorem dX2_is_19 : decode cX2_is 19 = .ok (.getfield 11, 3) := decs_at bnc_x20_8 11 (x := (19, .getfield 11, 3)) rfl
theorem dX2_is_22 : decode cX2_is 22 = .ok (.iload_n 1, 1) := decs_at bnc_x20_8 12 (x := (22, .iload_n 1, 1)) rfl
theorem dX2_is_23 : decode cX2_is 23 = .ok (.aaload, 1) := decs_at bnc_x20_8 13 (x := (23, .aaload, 1)) rfl
theorem dX2_is_24 : decode cX2_is 24 = .ok (.astore_n 3, 1) := decs_at bnc_x20_8 14 (x := (24, .astore_n 3, 1)) rfl
theorem dX2_is_25 : decode cX2_is 25 = .ok (.aload_n 3, 1) := decs_at bnc_x20_8 15 (x := (25, .aload_n 3, 1)) rfl
theorem dX2_is_26 : decode cX2_is 26 = .ok (.ifnull 15, 3) := decs_at bnc_x20_8 16 (x := (26, .ifnull 15, 3)) rfl
theorem dX2_is_29 : decode cX2_is 29 = .ok (.aload_n 3, 1) := decs_at bnc_x20_8 17 (x := (29, .aload_n 3, 1)) rfl
theorem dX2_is_30 : decode cX2_is 30 = .ok (.iload_n 2, 1) := decs_at bnc_x20_8 18 (x := (30, .iload_n 2, 1)) rfl
theorem dX2_is_31 : decode cX2_is 31 = .ok (.invokevirtual 49, 3) := decs_at bnc_x20_8 19 (x := (31, .invokevirtual 49, 3)) rfl
theorem dX2_is_34 : decode cX2_is 34 = .ok (.ifCond .eq 7, 3) := decs_at bnc_x20_8 20 (x := (34, .ifCond .eq 7, 3)) rfl
theorem dX2_is_37 : decode cX2_is 37 = .ok (.iconst 1, 1) := decs_at bnc_x20_8 21 (x := (37, .iconst 1, 1)) rfl
theorem dX2_is_38 : decode cX2_is 38 = .ok (.goto 4, 3) := decs_at bnc_x20_8 22 (x := (38, .goto 4, 3)) rfl
theorem dX2_is_41 : decode cX2_is 41 = .ok (.iconst 0, 1) := decs_at bnc_x20_8 23 (x := (41, .iconst 0, 1)) rfl
theorem dX2_is_42 : decode cX2_is 42 = .ok (.ireturn, 1) := by decide +kernel
set_option maxRecDepth 20000 in
theorem ggX2_get_X2_isSlot : GoodIn wsX2_get wsX2_isSlot := goodIn_r _ [8] rfl (by decide +kernel)
set_option maxRecDepth 20000 in
theorem gX2_get_X2_isSlot : GoodIn wsX2_get (va_wsS RX2 34 yX2_isSlot wsX2_isSlot) := goodIn_app (goodIn_r _ [5, 6, 7] rfl (by decide +kernel)) ggX2_get_X2_isSlot
set_option maxRecDepth 20000 in
theorem ggX2_get_X2_isValueField : GoodIn wsX2_get wsX2_isValueField := goodIn_r _ [11, 12, 13, 14, 7, 15] rfl (by decide +kernel)
set_option maxRecDepth 20000 in
theorem gX2_get_X2_isValueField : GoodIn wsX2_get (va_wsS RX2 52 yX2_isValueField wsX2_isValueField) := goodIn_app (goodIn_r _ [9, 10, 7] rfl (by decide +kernel)) ggX2_get_X2_isValueField
set_option maxRecDepth 20000 in
theorem ggX2_get_X2_failureAs : GoodIn wsX2_get wsX2_failureAs := goodIn_r _ [18, 19, 20, 21, 22, 23, 24, 34, 35, 36, 37, 38, 39] rfl (by decide +kernel)
set_option maxRecDepth 20000 in
theorem gX2_get_X2_failureAs : GoodIn wsX2_get (va_wsS RX2 61 yX2_failureAs wsX2_failureAs) := goodIn_app (goodIn_r _ [16, 17, 7] rfl (by decide +kernel)) ggX2_get_X2_failureAs
theorem bnc_x20_9 : decs cX2_get [(0, .iload_n 1, 1), (1, .invokestatic 34, 3), (4, .ifCond .eq 10, 3), (7, .iload_n 2, 1), (8, .invokestatic 52, 3), (11, .ifCond .ne 7, 3), (14, .ldc2_w 55, 3), (17, .lreturn, 1), (18, .aload_n 0, 1), (19, .getfield 11, 3), (22, .iload_n 1, 1), (23, .aaload, 1), (24, .astore_n 3, 1), (25, .aload_n 3, 1), (26, .getstatic 57, 3), (29, .iload_n 2, 1), (30, .iaload, 1), (31, .invokestatic 61, 3), (34, .istore 4, 2), (36, .iload 4, 2), (38, .ifCond .eq 9, 3), (41, .iload 4, 2), (43, .i2l, 1), (44, .goto 9, 3)] = true := by decide +kernel
theorem dX2_get_0 : decode cX2_get 0 = .ok (.iload_n 1, 1) := decs_at bnc_x20_9 0 (x := (0, .iload_n 1, 1)) rfl
theorem dX2_get_1 : decode cX2_get 1 = .ok (.invokestatic 34, 3) := decs_at bnc_x20_9 1 (x := (1, .invokestatic 34, 3)) rfl
theorem dX2_get_4 : decode cX2_get 4 = .ok (.ifCond .eq 10, 3) := decs_at bnc_x20_9 2 (x := (4, .ifCond .eq 10, 3)) rfl
theorem dX2_get_7 : decode cX2_get 7 = .ok (.iload_n 2, 1) := decs_at bnc_x20_9 3 (x := (7, .iload_n 2, 1)) rfl
theorem dX2_get_8 : decode cX2_get 8 = .ok (.invokestatic 52, 3) := decs_at bnc_x20_9 4 (x := (8, .invokestatic 52, 3)) rfl
theorem dX2_get_11 : decode cX2_get 11 = .ok (.ifCond .ne 7, 3) := decs_at bnc_x20_9 5 (x := (11, .ifCond .ne 7, 3)) rfl
theorem dX2_get_14 : decode cX2_get 14 = .ok (.ldc2_w 55, 3) := decs_at bnc_x20_9 6 (x := (14, .ldc2_w 55, 3)) rfl
theorem dX2_get_17 : decode cX2_get 17 = .ok (.lreturn, 1) := decs_at bnc_x20_9 7 (x := (17, .lreturn, 1)) rfl
theorem dX2_get_18 : decode cX2_get 18 = .ok (.aload_n 0, 1) := decs_at bnc_x20_9 8 (x := (18, .aload_n 0, 1)) rfl
theorem dX2_get_19 : decode cX2_get 19 = .ok (.getfield 11, 3) := decs_at bnc_x20_9 9 (x := (19, .getfield 11, 3)) rfl
theorem dX2_get_22 : decode cX2_get 22 = .ok (.iload_n 1, 1) := decs_at bnc_x20_9 10 (x := (22, .iload_n 1, 1)) rfl
theorem dX2_get_23 : decode cX2_get 23 = .ok (.aaload, 1) := decs_at bnc_x20_9 11 (x := (23, .aaload, 1)) rfl
theorem dX2_get_24 : decode cX2_get 24 = .ok (.astore_n 3, 1) := decs_at bnc_x20_9 12 (x := (24, .astore_n 3, 1)) rfl
theorem dX2_get_25 : decode cX2_get 25 = .ok (.aload_n 3, 1) := decs_at bnc_x20_9 13 (x := (25, .aload_n 3, 1)) rfl
theorem dX2_get_26 : decode cX2_get 26 = .ok (.getstatic 57, 3) := decs_at bnc_x20_9 14 (x := (26, .getstatic 57, 3)) rfl
theorem dX2_get_29 : decode cX2_get 29 = .ok (.iload_n 2, 1) := decs_at bnc_x20_9 15 (x := (29, .iload_n 2, 1)) rfl
theorem dX2_get_30 : decode cX2_get 30 = .ok (.iaload, 1) := decs_at bnc_x20_9 16 (x := (30, .iaload, 1)) rfl
theorem dX2_get_31 : decode cX2_get 31 = .ok (.invokestatic 61, 3) := decs_at bnc_x20_9 17 (x := (31, .invokestatic 61, 3)) rfl
theorem dX2_get_34 : decode cX2_get 34 = .ok (.istore 4, 2) := decs_at bnc_x20_9 18 (x := (34, .istore 4, 2)) rfl
theorem dX2_get_36 : decode cX2_get 36 = .ok (.iload 4, 2) := decs_at bnc_x20_9 19 (x := (36, .iload 4, 2)) rfl
theorem dX2_get_38 : decode cX2_get 38 = .ok (.ifCond .eq 9, 3) := decs_at bnc_x20_9 20 (x := (38, .ifCond .eq 9, 3)) rfl
theorem dX2_get_41 : decode cX2_get 41 = .ok (.iload 4, 2) := decs_at bnc_x20_9 21 (x := (41, .iload 4, 2)) rfl
theorem dX2_get_43 : decode cX2_get 43 = .ok (.i2l, 1) := decs_at bnc_x20_9 22 (x := (43, .i2l, 1)) rfl
theorem dX2_get_44 : decode cX2_get 44 = .ok (.goto 9, 3) := decs_at bnc_x20_9 23 (x := (44, .goto 9, 3)) rfl
theorem bnc_x20_10 : decs cX2_get [(47, .aload_n 3, 1), (48, .getfield 65, 3), (51, .iload_n 2, 1), (52, .laload, 1), (53, .lreturn, 1)] = true := by decide +kernel
theorem dX2_get_47 : decode cX2_get 47 = .ok (.aload_n 3, 1) := decs_at bnc_x20_10 0 (x := (47, .aload_n 3, 1)) rfl
theorem dX2_get_48 : decode cX2_get 48 = .ok (.getfield 65, 3) := decs_at bnc_x20_10 1 (x := (48, .getfield 65, 3)) rfl
theorem dX2_get_51 : decode cX2_get 51 = .ok (.iload_n 2, 1) := decs_at bnc_x20_10 2 (x := (51, .iload_n 2, 1)) rfl
theorem dX2_get_52 : decode cX2_get 52 = .ok (.laload, 1) := decs_at bnc_x20_10 3 (x := (52, .laload, 1)) rfl
theorem dX2_get_53 : decode cX2_get 53 = .ok (.lreturn, 1) := decs_at bnc_x20_10 4 (x := (53, .lreturn, 1)) rfl
set_option maxRecDepth 20000 in
theorem ggX2_set_X2_isSlot : GoodIn wsX2_set wsX2_isSlot := goodIn_r _ [7] rfl (by decide +kernel)
set_option maxRecDepth 20000 in
theorem gX2_set_X2_isSlot : GoodIn wsX2_set (va_wsS RX2 34 yX2_isSlot wsX2_isSlot) := goodIn_app (goodIn_r _ [4, 5, 6] rfl (by decide +kernel)) ggX2_set_X2_isSlot
set_option maxRecDepth 20000 in
theorem ggX2_set_X2_isValueField : GoodIn wsX2_set wsX2_isValueField := goodIn_r _ [10, 11, 12, 13, 6, 14] rfl (by decide +kernel)
set_option maxRecDepth 20000 in
theorem gX2_set_X2_isValueField : GoodIn wsX2_set (va_wsS RX2 52 yX2_isValueField wsX2_isValueField) := goodIn_app (goodIn_r _ [8, 9, 6] rfl (by decide +kernel)) ggX2_set_X2_isValueField
set_option maxRecDepth 20000 in
theorem ggX2_set_X2_failureAs : GoodIn wsX2_set wsX2_failureAs := goodIn_r _ [17, 18, 19, 20, 21, 22, 23, 51, 52, 53, 54, 55, 56] rfl (by decide +kernel)
set_option maxRecDepth 20000 in
theorem gX2_set_X2_failureAs : GoodIn wsX2_set (va_wsS RX2 61 yX2_failureAs wsX2_failureAs) := goodIn_app (goodIn_r _ [15, 16, 6] rfl (by decide +kernel)) ggX2_set_X2_failureAs
set_option maxRecDepth 20000 in
theorem ggX2_set_X2_isFinal : GoodIn wsX2_set wsX2_isFinal := goodIn_r _ [26] rfl (by decide +kernel)
set_option maxRecDepth 20000 in
theorem gX2_set_X2_isFinal : GoodIn wsX2_set (va_wsS RX2 69 yX2_isFinal wsX2_isFinal) := goodIn_app (goodIn_r _ [24, 25, 6] rfl (by decide +kernel)) ggX2_set_X2_isFinal
set_option maxRecDepth 20000 in
theorem ggX2_set_X2_asTold : GoodIn wsX2_set wsX2_asTold := goodIn_r _ [29, 11, 30, 31, 6, 32, 33, 34, 35, 36, 37, 38, 39, 40, 41] rfl (by decide +kernel)
set_option maxRecDepth 20000 in
theorem gX2_set_X2_asTold : GoodIn wsX2_set (va_wsS RX2 72 yX2_asTold wsX2_asTold) := goodIn_app (goodIn_r _ [27, 28, 6] rfl (by decide +kernel)) ggX2_set_X2_asTold
theorem bnc_x20_11 : decs cX2_set [(0, .iload_n 1, 1), (1, .invokestatic 34, 3), (4, .ifCond .eq 10, 3), (7, .iload_n 2, 1), (8, .invokestatic 52, 3), (11, .ifCond .ne 5, 3), (14, .iconst (-1), 1), (15, .ireturn, 1), (16, .aload_n 0, 1), (17, .getfield 11, 3), (20, .iload_n 1, 1), (21, .aaload, 1), (22, .astore 5, 2), (24, .aload 5, 2), (26, .getstatic 57, 3), (29, .iload_n 2, 1), (30, .iaload, 1), (31, .invokestatic 61, 3), (34, .istore 6, 2), (36, .iload 6, 2), (38, .ifCond .eq 6, 3), (41, .iload 6, 2), (43, .ireturn, 1), (44, .iload_n 2, 1)] = true := by decide +kernel
theorem dX2_set_0 : decode cX2_set 0 = .ok (.iload_n 1, 1) := decs_at bnc_x20_11 0 (x := (0, .iload_n 1, 1)) rfl
theorem dX2_set_1 : decode cX2_set 1 = .ok (.invokestatic 34, 3) := decs_at bnc_x20_11 1 (x := (1, .invokestatic 34, 3)) rfl
theorem dX2_set_4 : decode cX2_set 4 = .ok (.ifCond .eq 10, 3) := decs_at bnc_x20_11 2 (x := (4, .ifCond .eq 10, 3)) rfl
theorem dX2_set_7 : decode cX2_set 7 = .ok (.iload_n 2, 1) := decs_at bnc_x20_11 3 (x := (7, .iload_n 2, 1)) rfl
theorem dX2_set_8 : decode cX2_set 8 = .ok (.invokestatic 52, 3) := decs_at bnc_x20_11 4 (x := (8, .invokestatic 52, 3)) rfl
theorem dX2_set_11 : decode cX2_set 11 = .ok (.ifCond .ne 5, 3) := decs_at bnc_x20_11 5 (x := (11, .ifCond .ne 5, 3)) rfl
theorem dX2_set_14 : decode cX2_set 14 = .ok (.iconst (-1), 1) := decs_at bnc_x20_11 6 (x := (14, .iconst (-1), 1)) rfl
theorem dX2_set_15 : decode cX2_set 15 = .ok (.ireturn, 1) := decs_at bnc_x20_11 7 (x := (15, .ireturn, 1)) rfl
theorem dX2_set_16 : decode cX2_set 16 = .ok (.aload_n 0, 1) := decs_at bnc_x20_11 8 (x := (16, .aload_n 0, 1)) rfl
theorem dX2_set_17 : decode cX2_set 17 = .ok (.getfield 11, 3) := decs_at bnc_x20_11 9 (x := (17, .getfield 11, 3)) rfl
theorem dX2_set_20 : decode cX2_set 20 = .ok (.iload_n 1, 1) := decs_at bnc_x20_11 10 (x := (20, .iload_n 1, 1)) rfl
theorem dX2_set_21 : decode cX2_set 21 = .ok (.aaload, 1) := decs_at bnc_x20_11 11 (x := (21, .aaload, 1)) rfl
theorem dX2_set_22 : decode cX2_set 22 = .ok (.astore 5, 2) := decs_at bnc_x20_11 12 (x := (22, .astore 5, 2)) rfl
theorem dX2_set_24 : decode cX2_set 24 = .ok (.aload 5, 2) := decs_at bnc_x20_11 13 (x := (24, .aload 5, 2)) rfl
theorem dX2_set_26 : decode cX2_set 26 = .ok (.getstatic 57, 3) := decs_at bnc_x20_11 14 (x := (26, .getstatic 57, 3)) rfl
theorem dX2_set_29 : decode cX2_set 29 = .ok (.iload_n 2, 1) := decs_at bnc_x20_11 15 (x := (29, .iload_n 2, 1)) rfl
theorem dX2_set_30 : decode cX2_set 30 = .ok (.iaload, 1) := decs_at bnc_x20_11 16 (x := (30, .iaload, 1)) rfl
theorem dX2_set_31 : decode cX2_set 31 = .ok (.invokestatic 61, 3) := decs_at bnc_x20_11 17 (x := (31, .invokestatic 61, 3)) rfl
theorem dX2_set_34 : decode cX2_set 34 = .ok (.istore 6, 2) := decs_at bnc_x20_11 18 (x := (34, .istore 6, 2)) rfl
theorem dX2_set_36 : decode cX2_set 36 = .ok (.iload 6, 2) := decs_at bnc_x20_11 19 (x := (36, .iload 6, 2)) rfl
theorem dX2_set_38 : decode cX2_set 38 = .ok (.ifCond .eq 6, 3) := decs_at bnc_x20_11 20 (x := (38, .ifCond .eq 6, 3)) rfl
theorem dX2_set_41 : decode cX2_set 41 = .ok (.iload 6, 2) := decs_at bnc_x20_11 21 (x := (41, .iload 6, 2)) rfl
theorem dX2_set_43 : decode cX2_set 43 = .ok (.ireturn, 1) := decs_at bnc_x20_11 22 (x := (43, .ireturn, 1)) rfl
theorem dX2_set_44 : decode cX2_set 44 = .ok (.iload_n 2, 1) := decs_at bnc_x20_11 23 (x := (44, .iload_n 2, 1)) rfl
theorem bnc_x20_12 : decs cX2_set [(45, .invokestatic 69, 3), (48, .ifCond .eq 6, 3), (51, .bipush (-17), 2), (53, .ireturn, 1), (54, .aload 5, 2), (56, .getfield 65, 3), (59, .iload_n 2, 1), (60, .iload_n 2, 1), (61, .lload_n 3, 1), (62, .invokestatic 72, 3), (65, .lastore, 1), (66, .iconst 1, 1), (67, .ireturn, 1)] = true := by decide +kernel
theorem dX2_set_45 : decode cX2_set 45 = .ok (.invokestatic 69, 3) := decs_at bnc_x20_12 0 (x := (45, .invokestatic 69, 3)) rfl
theorem dX2_set_48 : decode cX2_set 48 = .ok (.ifCond .eq 6, 3) := decs_at bnc_x20_12 1 (x := (48, .ifCond .eq 6, 3)) rfl
theorem dX2_set_51 : decode cX2_set 51 = .ok (.bipush (-17), 2) := decs_at bnc_x20_12 2 (x := (51, .bipush (-17), 2)) rfl
theorem dX2_set_53 : decode cX2_set 53 = .ok (.ireturn, 1) := decs_at bnc_x20_12 3 (x := (53, .ireturn, 1)) rfl
theorem dX2_set_54 : decode cX2_set 54 = .ok (.aload 5, 2) := decs_at bnc_x20_12 4 (x := (54, .aload 5, 2)) rfl
theorem dX2_set_56 : decode cX2_set 56 = .ok (.getfield 65, 3) := decs_at bnc_x20_12 5 (x := (56, .getfield 65, 3)) rfl
theorem dX2_set_59 : decode cX2_set 59 = .ok (.iload_n 2, 1) := decs_at bnc_x20_12 6 (x := (59, .iload_n 2, 1)) rfl
theorem dX2_set_60 : decode cX2_set 60 = .ok (.iload_n 2, 1) := decs_at bnc_x20_12 7 (x := (60, .iload_n 2, 1)) rfl
theorem dX2_set_61 : decode cX2_set 61 = .ok (.lload_n 3, 1) := decs_at bnc_x20_12 8 (x := (61, .lload_n 3, 1)) rfl
theorem dX2_set_62 : decode cX2_set 62 = .ok (.invokestatic 72, 3) := decs_at bnc_x20_12 9 (x := (62, .invokestatic 72, 3)) rfl
theorem dX2_set_65 : decode cX2_set 65 = .ok (.lastore, 1) := decs_at bnc_x20_12 10 (x := (65, .lastore, 1)) rfl
theorem dX2_set_66 : decode cX2_set 66 = .ok (.iconst 1, 1) := decs_at bnc_x20_12 11 (x := (66, .iconst 1, 1)) rfl
theorem dX2_set_67 : decode cX2_set 67 = .ok (.ireturn, 1) := decs_at bnc_x20_12 12 (x := (67, .ireturn, 1)) rfl
set_option maxRecDepth 20000 in
theorem ggX2_link_X2_isSlot : GoodIn wsX2_link wsX2_isSlot := goodIn_r _ [6] rfl (by decide +kernel)
set_option maxRecDepth 20000 in
theorem gX2_link_X2_isSlot : GoodIn wsX2_link (va_wsS RX2 34 yX2_isSlot wsX2_isSlot) := goodIn_app (goodIn_r _ [3, 4, 5] rfl (by decide +kernel)) ggX2_link_X2_isSlot
set_option maxRecDepth 20000 in
theorem ggX2_link_X2_isLinkField : GoodIn wsX2_link wsX2_isLinkField := goodIn_r _ [9, 10, 11, 12, 5, 13] rfl (by decide +kernel)
set_option maxRecDepth 20000 in
theorem gX2_link_X2_isLinkField : GoodIn wsX2_link (va_wsS RX2 76 yX2_isLinkField wsX2_isLinkField) := goodIn_app (goodIn_r _ [7, 8, 5] rfl (by decide +kernel)) ggX2_link_X2_isLinkField
set_option maxRecDepth 20000 in
theorem ggX2_link_X1_isOf : GoodIn wsX2_link wsX1_isOf := goodIn_r _ [18, 19, 39, 40, 41, 42, 43, 44] rfl (by decide +kernel)
set_option maxRecDepth 20000 in
theorem gX2_link_X1_isOf : GoodIn wsX2_link (wsV RX2 49 RX1 yX1_isOf wsX1_isOf) := goodIn_app (goodIn_r _ [14, 15, 16, 17] rfl (by decide +kernel)) ggX2_link_X1_isOf
set_option maxRecDepth 20000 in
theorem ggX2_link_X2_wantedIn : GoodIn wsX2_link wsX2_wantedIn := goodIn_r _ [22] rfl (by decide +kernel)
set_option maxRecDepth 20000 in
theorem gX2_link_X2_wantedIn : GoodIn wsX2_link (va_wsS RX2 79 yX2_wantedIn wsX2_wantedIn) := goodIn_app (goodIn_r _ [20, 21, 5] rfl (by decide +kernel)) ggX2_link_X2_wantedIn
set_option maxRecDepth 20000 in
theorem ggX2_link_X1_hold : GoodIn wsX2_link wsX1_hold := goodIn_r _ [26, 27, 28, 29, 39, 40, 41, 42, 43, 44] rfl (by decide +kernel)
set_option maxRecDepth 20000 in
theorem gX2_link_X1_hold : GoodIn wsX2_link (wsV RX2 83 RX1 yX1_hold wsX1_hold) := goodIn_app (goodIn_r _ [23, 24, 25, 17] rfl (by decide +kernel)) ggX2_link_X1_hold
theorem bnc_x20_13 : decs cX2_link [(0, .iload_n 1, 1), (1, .invokestatic 34, 3), (4, .ifCond .eq 17, 3), (7, .iload_n 2, 1), (8, .invokestatic 76, 3), (11, .ifCond .eq 10, 3), (14, .iload_n 3, 1), (15, .invokestatic 34, 3), (18, .ifCond .ne 5, 3), (21, .iconst (-1), 1), (22, .ireturn, 1), (23, .aload_n 0, 1), (24, .getfield 11, 3), (27, .iload_n 1, 1), (28, .aaload, 1), (29, .astore 4, 2), (31, .aload_n 0, 1), (32, .getfield 11, 3), (35, .iload_n 3, 1), (36, .aaload, 1), (37, .astore 5, 2), (39, .aload 4, 2), (41, .ifnull 19, 3), (44, .aload 4, 2)] = true := by decide +kernel
theorem dX2_link_0 : decode cX2_link 0 = .ok (.iload_n 1, 1) := decs_at bnc_x20_13 0 (x := (0, .iload_n 1, 1)) rfl
theorem dX2_link_1 : decode cX2_link 1 = .ok (.invokestatic 34, 3) := decs_at bnc_x20_13 1 (x := (1, .invokestatic 34, 3)) rfl
theorem dX2_link_4 : decode cX2_link 4 = .ok (.ifCond .eq 17, 3) := decs_at bnc_x20_13 2 (x := (4, .ifCond .eq 17, 3)) rfl
theorem dX2_link_7 : decode cX2_link 7 = .ok (.iload_n 2, 1) := decs_at bnc_x20_13 3 (x := (7, .iload_n 2, 1)) rfl
theorem dX2_link_8 : decode cX2_link 8 = .ok (.invokestatic 76, 3) := decs_at bnc_x20_13 4 (x := (8, .invokestatic 76, 3)) rfl
theorem dX2_link_11 : decode cX2_link 11 = .ok (.ifCond .eq 10, 3) := decs_at bnc_x20_13 5 (x := (11, .ifCond .eq 10, 3)) rfl
theorem dX2_link_14 : decode cX2_link 14 = .ok (.iload_n 3, 1) := decs_at bnc_x20_13 6 (x := (14, .iload_n 3, 1)) rfl
theorem dX2_link_15 : decode cX2_link 15 = .ok (.invokestatic 34, 3) := decs_at bnc_x20_13 7 (x := (15, .invokestatic 34, 3)) rfl
theorem dX2_link_18 : decode cX2_link 18 = .ok (.ifCond .ne 5, 3) := decs_at bnc_x20_13 8 (x := (18, .ifCond .ne 5, 3)) rfl
theorem dX2_link_21 : decode cX2_link 21 = .ok (.iconst (-1), 1) := decs_at bnc_x20_13 9 (x := (21, .iconst (-1), 1)) rfl
theorem dX2_link_22 : decode cX2_link 22 = .ok (.ireturn, 1) := decs_at bnc_x20_13 10 (x := (22, .ireturn, 1)) rfl
theorem dX2_link_23 : decode cX2_link 23 = .ok (.aload_n 0, 1) := decs_at bnc_x20_13 11 (x := (23, .aload_n 0, 1)) rfl
theorem dX2_link_24 : decode cX2_link 24 = .ok (.getfield 11, 3) := decs_at bnc_x20_13 12 (x := (24, .getfield 11, 3)) rfl
theorem dX2_link_27 : decode cX2_link 27 = .ok (.iload_n 1, 1) := decs_at bnc_x20_13 13 (x := (27, .iload_n 1, 1)) rfl
theorem dX2_link_28 : decode cX2_link 28 = .ok (.aaload, 1) := decs_at bnc_x20_13 14 (x := (28, .aaload, 1)) rfl
theorem dX2_link_29 : decode cX2_link 29 = .ok (.astore 4, 2) := decs_at bnc_x20_13 15 (x := (29, .astore 4, 2)) rfl
theorem dX2_link_31 : decode cX2_link 31 = .ok (.aload_n 0, 1) := decs_at bnc_x20_13 16 (x := (31, .aload_n 0, 1)) rfl
theorem dX2_link_32 : decode cX2_link 32 = .ok (.getfield 11, 3) := decs_at bnc_x20_13 17 (x := (32, .getfield 11, 3)) rfl
theorem dX2_link_35 : decode cX2_link 35 = .ok (.iload_n 3, 1) := decs_at bnc_x20_13 18 (x := (35, .iload_n 3, 1)) rfl
theorem dX2_link_36 : decode cX2_link 36 = .ok (.aaload, 1) := decs_at bnc_x20_13 19 (x := (36, .aaload, 1)) rfl
theorem dX2_link_37 : decode cX2_link 37 = .ok (.astore 5, 2) := decs_at bnc_x20_13 20 (x := (37, .astore 5, 2)) rfl
theorem dX2_link_39 : decode cX2_link 39 = .ok (.aload 4, 2) := decs_at bnc_x20_13 21 (x := (39, .aload 4, 2)) rfl
theorem dX2_link_41 : decode cX2_link 41 = .ok (.ifnull 19, 3) := decs_at bnc_x20_13 22 (x := (41, .ifnull 19, 3)) rfl
theorem dX2_link_44 : decode cX2_link 44 = .ok (.aload 4, 2) := decs_at bnc_x20_13 23 (x := (44, .aload 4, 2)) rfl
theorem bnc_x20_14 : decs cX2_link [(46, .getstatic 57, 3), (49, .iload_n 2, 1), (50, .iaload, 1), (51, .invokevirtual 49, 3), (54, .ifCond .ne 6, 3), (57, .bipush (-14), 2), (59, .ireturn, 1), (60, .aload 5, 2), (62, .ifnull 18, 3), (65, .aload 5, 2), (67, .iload_n 2, 1), (68, .invokestatic 79, 3), (71, .invokevirtual 49, 3), (74, .ifCond .ne 6, 3), (77, .bipush (-14), 2), (79, .ireturn, 1), (80, .aload 4, 2), (82, .ifnonnull 6, 3), (85, .bipush (-11), 2), (87, .ireturn, 1), (88, .aload 4, 2), (90, .iload_n 2, 1), (91, .aload 5, 2), (93, .invokevirtual 83, 3)] = true := by decide +kernel
theorem dX2_link_46 : decode cX2_link 46 = .ok (.getstatic 57, 3) := decs_at bnc_x20_14 0 (x := (46, .getstatic 57, 3)) rfl
theorem dX2_link_49 : decode cX2_link 49 = .ok (.iload_n 2, 1) := decs_at bnc_x20_14 1 (x := (49, .iload_n 2, 1)) rfl
theorem dX2_link_50 : decode cX2_link 50 = .ok (.iaload, 1) := decs_at bnc_x20_14 2 (x := (50, .iaload, 1)) rfl
theorem dX2_link_51 : decode cX2_link 51 = .ok (.invokevirtual 49, 3) := decs_at bnc_x20_14 3 (x := (51, .invokevirtual 49, 3)) rfl
theorem dX2_link_54 : decode cX2_link 54 = .ok (.ifCond .ne 6, 3) := decs_at bnc_x20_14 4 (x := (54, .ifCond .ne 6, 3)) rfl
theorem dX2_link_57 : decode cX2_link 57 = .ok (.bipush (-14), 2) := decs_at bnc_x20_14 5 (x := (57, .bipush (-14), 2)) rfl
theorem dX2_link_59 : decode cX2_link 59 = .ok (.ireturn, 1) := decs_at bnc_x20_14 6 (x := (59, .ireturn, 1)) rfl
theorem dX2_link_60 : decode cX2_link 60 = .ok (.aload 5, 2) := decs_at bnc_x20_14 7 (x := (60, .aload 5, 2)) rfl
theorem dX2_link_62 : decode cX2_link 62 = .ok (.ifnull 18, 3) := decs_at bnc_x20_14 8 (x := (62, .ifnull 18, 3)) rfl
theorem dX2_link_65 : decode cX2_link 65 = .ok (.aload 5, 2) := decs_at bnc_x20_14 9 (x := (65, .aload 5, 2)) rfl
theorem dX2_link_67 : decode cX2_link 67 = .ok (.iload_n 2, 1) := decs_at bnc_x20_14 10 (x := (67, .iload_n 2, 1)) rfl
theorem dX2_link_68 : decode cX2_link 68 = .ok (.invokestatic 79, 3) := decs_at bnc_x20_14 11 (x := (68, .invokestatic 79, 3)) rfl
theorem dX2_link_71 : decode cX2_link 71 = .ok (.invokevirtual 49, 3) := decs_at bnc_x20_14 12 (x := (71, .invokevirtual 49, 3)) rfl
theorem dX2_link_74 : decode cX2_link 74 = .ok (.ifCond .ne 6, 3) := decs_at bnc_x20_14 13 (x := (74, .ifCond .ne 6, 3)) rfl
theorem dX2_link_77 : decode cX2_link 77 = .ok (.bipush (-14), 2) := decs_at bnc_x20_14 14 (x := (77, .bipush (-14), 2)) rfl
theorem dX2_link_79 : decode cX2_link 79 = .ok (.ireturn, 1) := decs_at bnc_x20_14 15 (x := (79, .ireturn, 1)) rfl
theorem dX2_link_80 : decode cX2_link 80 = .ok (.aload 4, 2) := decs_at bnc_x20_14 16 (x := (80, .aload 4, 2)) rfl
theorem dX2_link_82 : decode cX2_link 82 = .ok (.ifnonnull 6, 3) := decs_at bnc_x20_14 17 (x := (82, .ifnonnull 6, 3)) rfl
theorem dX2_link_85 : decode cX2_link 85 = .ok (.bipush (-11), 2) := decs_at bnc_x20_14 18 (x := (85, .bipush (-11), 2)) rfl
theorem dX2_link_87 : decode cX2_link 87 = .ok (.ireturn, 1) := decs_at bnc_x20_14 19 (x := (87, .ireturn, 1)) rfl
theorem dX2_link_88 : decode cX2_link 88 = .ok (.aload 4, 2) := decs_at bnc_x20_14 20 (x := (88, .aload 4, 2)) rfl
theorem dX2_link_90 : decode cX2_link 90 = .ok (.iload_n 2, 1) := decs_at bnc_x20_14 21 (x := (90, .iload_n 2, 1)) rfl
theorem dX2_link_91 : decode cX2_link 91 = .ok (.aload 5, 2) := decs_at bnc_x20_14 22 (x := (91, .aload 5, 2)) rfl
theorem dX2_link_93 : decode cX2_link 93 = .ok (.invokevirtual 83, 3) := decs_at bnc_x20_14 23 (x := (93, .invokevirtual 83, 3)) rfl
theorem dX2_link_96 : decode cX2_link 96 = .ok (.iconst 1, 1) := by decide +kernel
theorem dX2_link_97 : decode cX2_link 97 = .ok (.ireturn, 1) := by decide +kernel
set_option maxRecDepth 20000 in
theorem ggX2_follow_X2_isSlot : GoodIn wsX2_follow wsX2_isSlot := goodIn_r _ [6] rfl (by decide +kernel)
set_option maxRecDepth 20000 in
theorem gX2_follow_X2_isSlot : GoodIn wsX2_follow (va_wsS RX2 34 yX2_isSlot wsX2_isSlot) := goodIn_app (goodIn_r _ [3, 4, 5] rfl (by decide +kernel)) ggX2_follow_X2_isSlot
set_option maxRecDepth 20000 in
theorem ggX2_follow_X2_isLinkField : GoodIn wsX2_follow wsX2_isLinkField := goodIn_r _ [9, 10, 11, 12, 5, 13] rfl (by decide +kernel)
set_option maxRecDepth 20000 in
theorem gX2_follow_X2_isLinkField : GoodIn wsX2_follow (va_wsS RX2 76 yX2_isLinkField wsX2_isLinkField) := goodIn_app (goodIn_r _ [7, 8, 5] rfl (by decide +kernel)) ggX2_follow_X2_isLinkField
set_option maxRecDepth 20000 in
theorem ggX2_follow_X2_failureAs : GoodIn wsX2_follow wsX2_failureAs := goodIn_r _ [16, 17, 18, 19, 20, 21, 22, 39, 40, 41, 42, 43, 44] rfl (by decide +kernel)
set_option maxRecDepth 20000 in
theorem gX2_follow_X2_failureAs : GoodIn wsX2_follow (va_wsS RX2 61 yX2_failureAs wsX2_failureAs) := goodIn_app (goodIn_r _ [14, 15, 5] rfl (by decide +kernel)) ggX2_follow_X2_failureAs
set_option maxRecDepth 20000 in
theorem ggX2_follow_X1_held : GoodIn wsX2_follow wsX1_held := goodIn_r _ [26, 27, 28, 29, 39, 40, 41, 42, 43, 44] rfl (by decide +kernel)
set_option maxRecDepth 20000 in
theorem gX2_follow_X1_held : GoodIn wsX2_follow (wsV RX2 87 RX1 yX1_held wsX1_held) := goodIn_app (goodIn_r _ [23, 24, 25, 20] rfl (by decide +kernel)) ggX2_follow_X1_held
theorem bnc_x20_15 : decs cX2_follow [(0, .iload_n 1, 1), (1, .invokestatic 34, 3), (4, .ifCond .eq 17, 3), (7, .iload_n 2, 1), (8, .invokestatic 76, 3), (11, .ifCond .eq 10, 3), (14, .iload_n 3, 1), (15, .invokestatic 34, 3), (18, .ifCond .ne 5, 3), (21, .iconst (-1), 1), (22, .ireturn, 1), (23, .aload_n 0, 1), (24, .getfield 11, 3), (27, .iload_n 1, 1), (28, .aaload, 1), (29, .astore 4, 2), (31, .aload 4, 2), (33, .getstatic 57, 3), (36, .iload_n 2, 1), (37, .iaload, 1), (38, .invokestatic 61, 3), (41, .istore 5, 2), (43, .iload 5, 2), (45, .ifCond .eq 6, 3)] = true := by decide +kernel
theorem dX2_follow_0 : decode cX2_follow 0 = .ok (.iload_n 1, 1) := decs_at bnc_x20_15 0 (x := (0, .iload_n 1, 1)) rfl
theorem dX2_follow_1 : decode cX2_follow 1 = .ok (.invokestatic 34, 3) := decs_at bnc_x20_15 1 (x := (1, .invokestatic 34, 3)) rfl
theorem dX2_follow_4 : decode cX2_follow 4 = .ok (.ifCond .eq 17, 3) := decs_at bnc_x20_15 2 (x := (4, .ifCond .eq 17, 3)) rfl
theorem dX2_follow_7 : decode cX2_follow 7 = .ok (.iload_n 2, 1) := decs_at bnc_x20_15 3 (x := (7, .iload_n 2, 1)) rfl
theorem dX2_follow_8 : decode cX2_follow 8 = .ok (.invokestatic 76, 3) := decs_at bnc_x20_15 4 (x := (8, .invokestatic 76, 3)) rfl
theorem dX2_follow_11 : decode cX2_follow 11 = .ok (.ifCond .eq 10, 3) := decs_at bnc_x20_15 5 (x := (11, .ifCond .eq 10, 3)) rfl
theorem dX2_follow_14 : decode cX2_follow 14 = .ok (.iload_n 3, 1) := decs_at bnc_x20_15 6 (x := (14, .iload_n 3, 1)) rfl
theorem dX2_follow_15 : decode cX2_follow 15 = .ok (.invokestatic 34, 3) := decs_at bnc_x20_15 7 (x := (15, .invokestatic 34, 3)) rfl
theorem dX2_follow_18 : decode cX2_follow 18 = .ok (.ifCond .ne 5, 3) := decs_at bnc_x20_15 8 (x := (18, .ifCond .ne 5, 3)) rfl
theorem dX2_follow_21 : decode cX2_follow 21 = .ok (.iconst (-1), 1) := decs_at bnc_x20_15 9 (x := (21, .iconst (-1), 1)) rfl
theorem dX2_follow_22 : decode cX2_follow 22 = .ok (.ireturn, 1) := decs_at bnc_x20_15 10 (x := (22, .ireturn, 1)) rfl
theorem dX2_follow_23 : decode cX2_follow 23 = .ok (.aload_n 0, 1) := decs_at bnc_x20_15 11 (x := (23, .aload_n 0, 1)) rfl
theorem dX2_follow_24 : decode cX2_follow 24 = .ok (.getfield 11, 3) := decs_at bnc_x20_15 12 (x := (24, .getfield 11, 3)) rfl
theorem dX2_follow_27 : decode cX2_follow 27 = .ok (.iload_n 1, 1) := decs_at bnc_x20_15 13 (x := (27, .iload_n 1, 1)) rfl
theorem dX2_follow_28 : decode cX2_follow 28 = .ok (.aaload, 1) := decs_at bnc_x20_15 14 (x := (28, .aaload, 1)) rfl
theorem dX2_follow_29 : decode cX2_follow 29 = .ok (.astore 4, 2) := decs_at bnc_x20_15 15 (x := (29, .astore 4, 2)) rfl
theorem dX2_follow_31 : decode cX2_follow 31 = .ok (.aload 4, 2) := decs_at bnc_x20_15 16 (x := (31, .aload 4, 2)) rfl
theorem dX2_follow_33 : decode cX2_follow 33 = .ok (.getstatic 57, 3) := decs_at bnc_x20_15 17 (x := (33, .getstatic 57, 3)) rfl
theorem dX2_follow_36 : decode cX2_follow 36 = .ok (.iload_n 2, 1) := decs_at bnc_x20_15 18 (x := (36, .iload_n 2, 1)) rfl
theorem dX2_follow_37 : decode cX2_follow 37 = .ok (.iaload, 1) := decs_at bnc_x20_15 19 (x := (37, .iaload, 1)) rfl
theorem dX2_follow_38 : decode cX2_follow 38 = .ok (.invokestatic 61, 3) := decs_at bnc_x20_15 20 (x := (38, .invokestatic 61, 3)) rfl
theorem dX2_follow_41 : decode cX2_follow 41 = .ok (.istore 5, 2) := decs_at bnc_x20_15 21 (x := (41, .istore 5, 2)) rfl
theorem dX2_follow_43 : decode cX2_follow 43 = .ok (.iload 5, 2) := decs_at bnc_x20_15 22 (x := (43, .iload 5, 2)) rfl
theorem dX2_follow_45 : decode cX2_follow 45 = .ok (.ifCond .eq 6, 3) := decs_at bnc_x20_15 23 (x := (45, .ifCond .eq 6, 3)) rfl
theorem bnc_x20_16 : decs cX2_follow [(48, .iload 5, 2), (50, .ireturn, 1), (51, .aload_n 0, 1), (52, .getfield 11, 3), (55, .iload_n 3, 1), (56, .aload 4, 2), (58, .iload_n 2, 1), (59, .invokevirtual 87, 3), (62, .aastore, 1), (63, .iconst 1, 1), (64, .ireturn, 1)] = true := by decide +kernel
theorem dX2_follow_48 : decode cX2_follow 48 = .ok (.iload 5, 2) := decs_at bnc_x20_16 0 (x := (48, .iload 5, 2)) rfl
theorem dX2_follow_50 : decode cX2_follow 50 = .ok (.ireturn, 1) := decs_at bnc_x20_16 1 (x := (50, .ireturn, 1)) rfl
theorem dX2_follow_51 : decode cX2_follow 51 = .ok (.aload_n 0, 1) := decs_at bnc_x20_16 2 (x := (51, .aload_n 0, 1)) rfl
theorem dX2_follow_52 : decode cX2_follow 52 = .ok (.getfield 11, 3) := decs_at bnc_x20_16 3 (x := (52, .getfield 11, 3)) rfl
theorem dX2_follow_55 : decode cX2_follow 55 = .ok (.iload_n 3, 1) := decs_at bnc_x20_16 4 (x := (55, .iload_n 3, 1)) rfl
theorem dX2_follow_56 : decode cX2_follow 56 = .ok (.aload 4, 2) := decs_at bnc_x20_16 5 (x := (56, .aload 4, 2)) rfl
theorem dX2_follow_58 : decode cX2_follow 58 = .ok (.iload_n 2, 1) := decs_at bnc_x20_16 6 (x := (58, .iload_n 2, 1)) rfl
theorem dX2_follow_59 : decode cX2_follow 59 = .ok (.invokevirtual 87, 3) := decs_at bnc_x20_16 7 (x := (59, .invokevirtual 87, 3)) rfl
theorem dX2_follow_62 : decode cX2_follow 62 = .ok (.aastore, 1) := decs_at bnc_x20_16 8 (x := (62, .aastore, 1)) rfl
theorem dX2_follow_63 : decode cX2_follow 63 = .ok (.iconst 1, 1) := decs_at bnc_x20_16 9 (x := (63, .iconst 1, 1)) rfl
theorem dX2_follow_64 : decode cX2_follow 64 = .ok (.ireturn, 1) := decs_at bnc_x20_16 10 (x := (64, .ireturn, 1)) rfl
set_option maxRecDepth 20000 in
theorem ggX2_row_X2_isSlot : GoodIn wsX2_row wsX2_isSlot := goodIn_r _ [7] rfl (by decide +kernel)
set_option maxRecDepth 20000 in
theorem gX2_row_X2_isSlot : GoodIn wsX2_row (va_wsS RX2 34 yX2_isSlot wsX2_isSlot) := goodIn_app (goodIn_r _ [4, 5, 6] rfl (by decide +kernel)) ggX2_row_X2_isSlot
set_option maxRecDepth 20000 in
theorem ggX2_row_X1_isOf : GoodIn wsX2_row wsX1_isOf := goodIn_r _ [12, 13, 23, 24, 25, 26, 27, 28] rfl (by decide +kernel)
set_option maxRecDepth 20000 in
theorem gX2_row_X1_isOf : GoodIn wsX2_row (wsV RX2 49 RX1 yX1_isOf wsX1_isOf) := goodIn_app (goodIn_r _ [8, 9, 10, 11] rfl (by decide +kernel)) ggX2_row_X1_isOf
theorem bnc_x20_17 : decs cX2_row [(0, .iload_n 1, 1), (1, .invokestatic 34, 3), (4, .ifCond .eq 9, 3), (7, .iload_n 2, 1), (8, .bipush 20, 2), (10, .if_icmp .le 5, 3), (13, .iconst (-1), 1), (14, .ireturn, 1), (15, .aload_n 0, 1), (16, .getfield 11, 3), (19, .iload_n 1, 1), (20, .aaload, 1), (21, .astore_n 3, 1), (22, .aload_n 3, 1), (23, .ifnull 14, 3), (26, .aload_n 3, 1), (27, .iconst 0, 1), (28, .invokevirtual 49, 3), (31, .ifCond .ne 6, 3), (34, .bipush (-14), 2), (36, .ireturn, 1), (37, .iload_n 2, 1), (38, .ifCond .ge 12, 3), (41, .iload_n 2, 1)] = true := by decide +kernel
theorem dX2_row_0 : decode cX2_row 0 = .ok (.iload_n 1, 1) := decs_at bnc_x20_17 0 (x := (0, .iload_n 1, 1)) rfl
theorem dX2_row_1 : decode cX2_row 1 = .ok (.invokestatic 34, 3) := decs_at bnc_x20_17 1 (x := (1, .invokestatic 34, 3)) rfl
theorem dX2_row_4 : decode cX2_row 4 = .ok (.ifCond .eq 9, 3) := decs_at bnc_x20_17 2 (x := (4, .ifCond .eq 9, 3)) rfl
theorem dX2_row_7 : decode cX2_row 7 = .ok (.iload_n 2, 1) := decs_at bnc_x20_17 3 (x := (7, .iload_n 2, 1)) rfl
theorem dX2_row_8 : decode cX2_row 8 = .ok (.bipush 20, 2) := decs_at bnc_x20_17 4 (x := (8, .bipush 20, 2)) rfl
theorem dX2_row_10 : decode cX2_row 10 = .ok (.if_icmp .le 5, 3) := decs_at bnc_x20_17 5 (x := (10, .if_icmp .le 5, 3)) rfl
theorem dX2_row_13 : decode cX2_row 13 = .ok (.iconst (-1), 1) := decs_at bnc_x20_17 6 (x := (13, .iconst (-1), 1)) rfl
theorem dX2_row_14 : decode cX2_row 14 = .ok (.ireturn, 1) := decs_at bnc_x20_17 7 (x := (14, .ireturn, 1)) rfl
theorem dX2_row_15 : decode cX2_row 15 = .ok (.aload_n 0, 1) := decs_at bnc_x20_17 8 (x := (15, .aload_n 0, 1)) rfl
theorem dX2_row_16 : decode cX2_row 16 = .ok (.getfield 11, 3) := decs_at bnc_x20_17 9 (x := (16, .getfield 11, 3)) rfl
theorem dX2_row_19 : decode cX2_row 19 = .ok (.iload_n 1, 1) := decs_at bnc_x20_17 10 (x := (19, .iload_n 1, 1)) rfl
theorem dX2_row_20 : decode cX2_row 20 = .ok (.aaload, 1) := decs_at bnc_x20_17 11 (x := (20, .aaload, 1)) rfl
theorem dX2_row_21 : decode cX2_row 21 = .ok (.astore_n 3, 1) := decs_at bnc_x20_17 12 (x := (21, .astore_n 3, 1)) rfl
theorem dX2_row_22 : decode cX2_row 22 = .ok (.aload_n 3, 1) := decs_at bnc_x20_17 13 (x := (22, .aload_n 3, 1)) rfl
theorem dX2_row_23 : decode cX2_row 23 = .ok (.ifnull 14, 3) := decs_at bnc_x20_17 14 (x := (23, .ifnull 14, 3)) rfl
theorem dX2_row_26 : decode cX2_row 26 = .ok (.aload_n 3, 1) := decs_at bnc_x20_17 15 (x := (26, .aload_n 3, 1)) rfl
theorem dX2_row_27 : decode cX2_row 27 = .ok (.iconst 0, 1) := decs_at bnc_x20_17 16 (x := (27, .iconst 0, 1)) rfl
theorem dX2_row_28 : decode cX2_row 28 = .ok (.invokevirtual 49, 3) := decs_at bnc_x20_17 17 (x := (28, .invokevirtual 49, 3)) rfl
theorem dX2_row_31 : decode cX2_row 31 = .ok (.ifCond .ne 6, 3) := decs_at bnc_x20_17 18 (x := (31, .ifCond .ne 6, 3)) rfl
theorem dX2_row_34 : decode cX2_row 34 = .ok (.bipush (-14), 2) := decs_at bnc_x20_17 19 (x := (34, .bipush (-14), 2)) rfl
theorem dX2_row_36 : decode cX2_row 36 = .ok (.ireturn, 1) := decs_at bnc_x20_17 20 (x := (36, .ireturn, 1)) rfl
theorem dX2_row_37 : decode cX2_row 37 = .ok (.iload_n 2, 1) := decs_at bnc_x20_17 21 (x := (37, .iload_n 2, 1)) rfl
theorem dX2_row_38 : decode cX2_row 38 = .ok (.ifCond .ge 12, 3) := decs_at bnc_x20_17 22 (x := (38, .ifCond .ge 12, 3)) rfl
theorem dX2_row_41 : decode cX2_row 41 = .ok (.iload_n 2, 1) := decs_at bnc_x20_17 23 (x := (41, .iload_n 2, 1)) rfl
theorem bnc_x20_18 : decs cX2_row [(42, .bipush (-4), 2), (44, .if_icmp .eq 6, 3), (47, .bipush (-13), 2), (49, .ireturn, 1), (50, .aload_n 3, 1), (51, .ifnonnull 6, 3), (54, .bipush (-11), 2), (56, .ireturn, 1), (57, .aload_n 3, 1), (58, .iload_n 2, 1), (59, .bipush (-4), 2), (61, .if_icmp .ne 7, 3), (64, .aconst_null, 1), (65, .goto 6, 3), (68, .iload_n 2, 1), (69, .newarray .int, 2), (71, .putfield 91, 3), (74, .iload_n 2, 1), (75, .ireturn, 1)] = true := by decide +kernel
theorem dX2_row_42 : decode cX2_row 42 = .ok (.bipush (-4), 2) := decs_at bnc_x20_18 0 (x := (42, .bipush (-4), 2)) rfl
theorem dX2_row_44 : decode cX2_row 44 = .ok (.if_icmp .eq 6, 3) := decs_at bnc_x20_18 1 (x := (44, .if_icmp .eq 6, 3)) rfl
theorem dX2_row_47 : decode cX2_row 47 = .ok (.bipush (-13), 2) := decs_at bnc_x20_18 2 (x := (47, .bipush (-13), 2)) rfl
theorem dX2_row_49 : decode cX2_row 49 = .ok (.ireturn, 1) := decs_at bnc_x20_18 3 (x := (49, .ireturn, 1)) rfl
theorem dX2_row_50 : decode cX2_row 50 = .ok (.aload_n 3, 1) := decs_at bnc_x20_18 4 (x := (50, .aload_n 3, 1)) rfl
theorem dX2_row_51 : decode cX2_row 51 = .ok (.ifnonnull 6, 3) := decs_at bnc_x20_18 5 (x := (51, .ifnonnull 6, 3)) rfl
theorem dX2_row_54 : decode cX2_row 54 = .ok (.bipush (-11), 2) := decs_at bnc_x20_18 6 (x := (54, .bipush (-11), 2)) rfl
theorem dX2_row_56 : decode cX2_row 56 = .ok (.ireturn, 1) := decs_at bnc_x20_18 7 (x := (56, .ireturn, 1)) rfl
theorem dX2_row_57 : decode cX2_row 57 = .ok (.aload_n 3, 1) := decs_at bnc_x20_18 8 (x := (57, .aload_n 3, 1)) rfl
theorem dX2_row_58 : decode cX2_row 58 = .ok (.iload_n 2, 1) := decs_at bnc_x20_18 9 (x := (58, .iload_n 2, 1)) rfl
theorem dX2_row_59 : decode cX2_row 59 = .ok (.bipush (-4), 2) := decs_at bnc_x20_18 10 (x := (59, .bipush (-4), 2)) rfl
theorem dX2_row_61 : decode cX2_row 61 = .ok (.if_icmp .ne 7, 3) := decs_at bnc_x20_18 11 (x := (61, .if_icmp .ne 7, 3)) rfl
theorem dX2_row_64 : decode cX2_row 64 = .ok (.aconst_null, 1) := decs_at bnc_x20_18 12 (x := (64, .aconst_null, 1)) rfl
theorem dX2_row_65 : decode cX2_row 65 = .ok (.goto 6, 3) := decs_at bnc_x20_18 13 (x := (65, .goto 6, 3)) rfl
theorem dX2_row_68 : decode cX2_row 68 = .ok (.iload_n 2, 1) := decs_at bnc_x20_18 14 (x := (68, .iload_n 2, 1)) rfl
theorem dX2_row_69 : decode cX2_row 69 = .ok (.newarray .int, 2) := decs_at bnc_x20_18 15 (x := (69, .newarray .int, 2)) rfl
theorem dX2_row_71 : decode cX2_row 71 = .ok (.putfield 91, 3) := decs_at bnc_x20_18 16 (x := (71, .putfield 91, 3)) rfl
theorem dX2_row_74 : decode cX2_row 74 = .ok (.iload_n 2, 1) := decs_at bnc_x20_18 17 (x := (74, .iload_n 2, 1)) rfl
theorem dX2_row_75 : decode cX2_row 75 = .ok (.ireturn, 1) := decs_at bnc_x20_18 18 (x := (75, .ireturn, 1)) rfl
set_option maxRecDepth 20000 in
theorem ggX2_put_X2_isSlot : GoodIn wsX2_put wsX2_isSlot := goodIn_r _ [6] rfl (by decide +kernel)
set_option maxRecDepth 20000 in
theorem gX2_put_X2_isSlot : GoodIn wsX2_put (va_wsS RX2 34 yX2_isSlot wsX2_isSlot) := goodIn_app (goodIn_r _ [3, 4, 5] rfl (by decide +kernel)) ggX2_put_X2_isSlot
set_option maxRecDepth 20000 in
theorem ggX2_put_X2_failureOfRow : GoodIn wsX2_put wsX2_failureOfRow := goodIn_r _ [9, 2, 10, 11, 5, 12, 13, 14, 15, 16, 17, 18, 28, 29, 30, 31, 32, 33] rfl (by decide +kernel)
set_option maxRecDepth 20000 in
theorem gX2_put_X2_failureOfRow : GoodIn wsX2_put (va_wsS RX2 94 yX2_failureOfRow wsX2_failureOfRow) := goodIn_app (goodIn_r _ [7, 8, 5] rfl (by decide +kernel)) ggX2_put_X2_failureOfRow
theorem bnc_x20_19 : decs cX2_put [(0, .iload_n 1, 1), (1, .invokestatic 34, 3), (4, .ifCond .ne 5, 3), (7, .iconst (-1), 1), (8, .ireturn, 1), (9, .aload_n 0, 1), (10, .getfield 11, 3), (13, .iload_n 1, 1), (14, .aaload, 1), (15, .astore 4, 2), (17, .aload 4, 2), (19, .invokestatic 94, 3), (22, .istore 5, 2), (24, .iload 5, 2), (26, .ifCond .eq 6, 3), (29, .iload 5, 2), (31, .ireturn, 1), (32, .iload_n 2, 1), (33, .ifCond .lt 13, 3), (36, .iload_n 2, 1), (37, .aload 4, 2), (39, .getfield 91, 3), (42, .arraylength, 1), (43, .if_icmp .lt 6, 3)] = true := by decide +kernel
theorem dX2_put_0 : decode cX2_put 0 = .ok (.iload_n 1, 1) := decs_at bnc_x20_19 0 (x := (0, .iload_n 1, 1)) rfl
theorem dX2_put_1 : decode cX2_put 1 = .ok (.invokestatic 34, 3) := decs_at bnc_x20_19 1 (x := (1, .invokestatic 34, 3)) rfl
theorem dX2_put_4 : decode cX2_put 4 = .ok (.ifCond .ne 5, 3) := decs_at bnc_x20_19 2 (x := (4, .ifCond .ne 5, 3)) rfl
theorem dX2_put_7 : decode cX2_put 7 = .ok (.iconst (-1), 1) := decs_at bnc_x20_19 3 (x := (7, .iconst (-1), 1)) rfl
theorem dX2_put_8 : decode cX2_put 8 = .ok (.ireturn, 1) := decs_at bnc_x20_19 4 (x := (8, .ireturn, 1)) rfl
theorem dX2_put_9 : decode cX2_put 9 = .ok (.aload_n 0, 1) := decs_at bnc_x20_19 5 (x := (9, .aload_n 0, 1)) rfl
theorem dX2_put_10 : decode cX2_put 10 = .ok (.getfield 11, 3) := decs_at bnc_x20_19 6 (x := (10, .getfield 11, 3)) rfl
theorem dX2_put_13 : decode cX2_put 13 = .ok (.iload_n 1, 1) := decs_at bnc_x20_19 7 (x := (13, .iload_n 1, 1)) rfl
theorem dX2_put_14 : decode cX2_put 14 = .ok (.aaload, 1) := decs_at bnc_x20_19 8 (x := (14, .aaload, 1)) rfl
theorem dX2_put_15 : decode cX2_put 15 = .ok (.astore 4, 2) := decs_at bnc_x20_19 9 (x := (15, .astore 4, 2)) rfl
theorem dX2_put_17 : decode cX2_put 17 = .ok (.aload 4, 2) := decs_at bnc_x20_19 10 (x := (17, .aload 4, 2)) rfl
theorem dX2_put_19 : decode cX2_put 19 = .ok (.invokestatic 94, 3) := decs_at bnc_x20_19 11 (x := (19, .invokestatic 94, 3)) rfl
theorem dX2_put_22 : decode cX2_put 22 = .ok (.istore 5, 2) := decs_at bnc_x20_19 12 (x := (22, .istore 5, 2)) rfl
theorem dX2_put_24 : decode cX2_put 24 = .ok (.iload 5, 2) := decs_at bnc_x20_19 13 (x := (24, .iload 5, 2)) rfl
theorem dX2_put_26 : decode cX2_put 26 = .ok (.ifCond .eq 6, 3) := decs_at bnc_x20_19 14 (x := (26, .ifCond .eq 6, 3)) rfl
theorem dX2_put_29 : decode cX2_put 29 = .ok (.iload 5, 2) := decs_at bnc_x20_19 15 (x := (29, .iload 5, 2)) rfl
theorem dX2_put_31 : decode cX2_put 31 = .ok (.ireturn, 1) := decs_at bnc_x20_19 16 (x := (31, .ireturn, 1)) rfl
theorem dX2_put_32 : decode cX2_put 32 = .ok (.iload_n 2, 1) := decs_at bnc_x20_19 17 (x := (32, .iload_n 2, 1)) rfl
theorem dX2_put_33 : decode cX2_put 33 = .ok (.ifCond .lt 13, 3) := decs_at bnc_x20_19 18 (x := (33, .ifCond .lt 13, 3)) rfl
theorem dX2_put_36 : decode cX2_put 36 = .ok (.iload_n 2, 1) := decs_at bnc_x20_19 19 (x := (36, .iload_n 2, 1)) rfl
theorem dX2_put_37 : decode cX2_put 37 = .ok (.aload 4, 2) := decs_at bnc_x20_19 20 (x := (37, .aload 4, 2)) rfl
theorem dX2_put_39 : decode cX2_put 39 = .ok (.getfield 91, 3) := decs_at bnc_x20_19 21 (x := (39, .getfield 91, 3)) rfl
theorem dX2_put_42 : decode cX2_put 42 = .ok (.arraylength, 1) := decs_at bnc_x20_19 22 (x := (42, .arraylength, 1)) rfl
theorem dX2_put_43 : decode cX2_put 43 = .ok (.if_icmp .lt 6, 3) := decs_at bnc_x20_19 23 (x := (43, .if_icmp .lt 6, 3)) rfl
theorem bnc_x20_20 : decs cX2_put [(46, .bipush (-12), 2), (48, .ireturn, 1), (49, .aload 4, 2), (51, .getfield 91, 3), (54, .iload_n 2, 1), (55, .iaload, 1), (56, .istore 6, 2), (58, .aload 4, 2), (60, .getfield 91, 3), (63, .iload_n 2, 1), (64, .iload_n 3, 1), (65, .iastore, 1), (66, .iload 6, 2), (68, .ireturn, 1)] = true := by decide +kernel
theorem dX2_put_46 : decode cX2_put 46 = .ok (.bipush (-12), 2) := decs_at bnc_x20_20 0 (x := (46, .bipush (-12), 2)) rfl
theorem dX2_put_48 : decode cX2_put 48 = .ok (.ireturn, 1) := decs_at bnc_x20_20 1 (x := (48, .ireturn, 1)) rfl
theorem dX2_put_49 : decode cX2_put 49 = .ok (.aload 4, 2) := decs_at bnc_x20_20 2 (x := (49, .aload 4, 2)) rfl
theorem dX2_put_51 : decode cX2_put 51 = .ok (.getfield 91, 3) := decs_at bnc_x20_20 3 (x := (51, .getfield 91, 3)) rfl
theorem dX2_put_54 : decode cX2_put 54 = .ok (.iload_n 2, 1) := decs_at bnc_x20_20 4 (x := (54, .iload_n 2, 1)) rfl
theorem dX2_put_55 : decode cX2_put 55 = .ok (.iaload, 1) := decs_at bnc_x20_20 5 (x := (55, .iaload, 1)) rfl
theorem dX2_put_56 : decode cX2_put 56 = .ok (.istore 6, 2) := decs_at bnc_x20_20 6 (x := (56, .istore 6, 2)) rfl
theorem dX2_put_58 : decode cX2_put 58 = .ok (.aload 4, 2) := decs_at bnc_x20_20 7 (x := (58, .aload 4, 2)) rfl
theorem dX2_put_60 : decode cX2_put 60 = .ok (.getfield 91, 3) := decs_at bnc_x20_20 8 (x := (60, .getfield 91, 3)) rfl
theorem dX2_put_63 : decode cX2_put 63 = .ok (.iload_n 2, 1) := decs_at bnc_x20_20 9 (x := (63, .iload_n 2, 1)) rfl
theorem dX2_put_64 : decode cX2_put 64 = .ok (.iload_n 3, 1) := decs_at bnc_x20_20 10 (x := (64, .iload_n 3, 1)) rfl
theorem dX2_put_65 : decode cX2_put 65 = .ok (.iastore, 1) := decs_at bnc_x20_20 11 (x := (65, .iastore, 1)) rfl
theorem dX2_put_66 : decode cX2_put 66 = .ok (.iload 6, 2) := decs_at bnc_x20_20 12 (x := (66, .iload 6, 2)) rfl
theorem dX2_put_68 : decode cX2_put 68 = .ok (.ireturn, 1) := decs_at bnc_x20_20 13 (x := (68, .ireturn, 1)) rfl
set_option maxRecDepth 20000 in
theorem ggX2_length_X2_isSlot : GoodIn wsX2_length wsX2_isSlot := goodIn_r _ [6] rfl (by decide +kernel)
set_option maxRecDepth 20000 in
theorem gX2_length_X2_isSlot : GoodIn wsX2_length (va_wsS RX2 34 yX2_isSlot wsX2_isSlot) := goodIn_app (goodIn_r _ [3, 4, 5] rfl (by decide +kernel)) ggX2_length_X2_isSlot
set_option maxRecDepth 20000 in
theorem ggX2_length_X2_failureOfRow : GoodIn wsX2_length wsX2_failureOfRow := goodIn_r _ [9, 2, 10, 11, 5, 12, 13, 14, 15, 16, 17, 18, 28, 29, 30, 31, 32, 33] rfl (by decide +kernel)
set_option maxRecDepth 20000 in
theorem gX2_length_X2_failureOfRow : GoodIn wsX2_length (va_wsS RX2 94 yX2_failureOfRow wsX2_failureOfRow) := goodIn_app (goodIn_r _ [7, 8, 5] rfl (by decide +kernel)) ggX2_length_X2_failureOfRow
theorem bnc_x20_21 : decs cX2_length [(0, .iload_n 1, 1), (1, .invokestatic 34, 3), (4, .ifCond .ne 5, 3), (7, .iconst (-1), 1), (8, .ireturn, 1), (9, .aload_n 0, 1), (10, .getfield 11, 3), (13, .iload_n 1, 1), (14, .aaload, 1), (15, .astore_n 2, 1), (16, .aload_n 2, 1), (17, .invokestatic 94, 3), (20, .istore_n 3, 1), (21, .iload_n 3, 1), (22, .ifCond .eq 7, 3), (25, .iload_n 3, 1), (26, .goto 8, 3), (29, .aload_n 2, 1), (30, .getfield 91, 3), (33, .arraylength, 1), (34, .ireturn, 1)] = true := by decide +kernel
theorem dX2_length_0 : decode cX2_length 0 = .ok (.iload_n 1, 1) := decs_at bnc_x20_21 0 (x := (0, .iload_n 1, 1)) rfl
theorem dX2_length_1 : decode cX2_length 1 = .ok (.invokestatic 34, 3) := decs_at bnc_x20_21 1 (x := (1, .invokestatic 34, 3)) rfl
theorem dX2_length_4 : decode cX2_length 4 = .ok (.ifCond .ne 5, 3) := decs_at bnc_x20_21 2 (x := (4, .ifCond .ne 5, 3)) rfl
theorem dX2_length_7 : decode cX2_length 7 = .ok (.iconst (-1), 1) := decs_at bnc_x20_21 3 (x := (7, .iconst (-1), 1)) rfl
theorem dX2_length_8 : decode cX2_length 8 = .ok (.ireturn, 1) := decs_at bnc_x20_21 4 (x := (8, .ireturn, 1)) rfl
theorem dX2_length_9 : decode cX2_length 9 = .ok (.aload_n 0, 1) := decs_at bnc_x20_21 5 (x := (9, .aload_n 0, 1)) rfl
theorem dX2_length_10 : decode cX2_length 10 = .ok (.getfield 11, 3) := decs_at bnc_x20_21 6 (x := (10, .getfield 11, 3)) rfl
theorem dX2_length_13 : decode cX2_length 13 = .ok (.iload_n 1, 1) := decs_at bnc_x20_21 7 (x := (13, .iload_n 1, 1)) rfl
theorem dX2_length_14 : decode cX2_length 14 = .ok (.aaload, 1) := decs_at bnc_x20_21 8 (x := (14, .aaload, 1)) rfl
theorem dX2_length_15 : decode cX2_length 15 = .ok (.astore_n 2, 1) := decs_at bnc_x20_21 9 (x := (15, .astore_n 2, 1)) rfl
theorem dX2_length_16 : decode cX2_length 16 = .ok (.aload_n 2, 1) := decs_at bnc_x20_21 10 (x := (16, .aload_n 2, 1)) rfl
theorem dX2_length_17 : decode cX2_length 17 = .ok (.invokestatic 94, 3) := decs_at bnc_x20_21 11 (x := (17, .invokestatic 94, 3)) rfl
theorem dX2_length_20 : decode cX2_length 20 = .ok (.istore_n 3, 1) := decs_at bnc_x20_21 12 (x := (20, .istore_n 3, 1)) rfl
theorem dX2_length_21 : decode cX2_length 21 = .ok (.iload_n 3, 1) := decs_at bnc_x20_21 13 (x := (21, .iload_n 3, 1)) rfl
theorem dX2_length_22 : decode cX2_length 22 = .ok (.ifCond .eq 7, 3) := decs_at bnc_x20_21 14 (x := (22, .ifCond .eq 7, 3)) rfl
theorem dX2_length_25 : decode cX2_length 25 = .ok (.iload_n 3, 1) := decs_at bnc_x20_21 15 (x := (25, .iload_n 3, 1)) rfl
theorem dX2_length_26 : decode cX2_length 26 = .ok (.goto 8, 3) := decs_at bnc_x20_21 16 (x := (26, .goto 8, 3)) rfl
theorem dX2_length_29 : decode cX2_length 29 = .ok (.aload_n 2, 1) := decs_at bnc_x20_21 17 (x := (29, .aload_n 2, 1)) rfl
theorem dX2_length_30 : decode cX2_length 30 = .ok (.getfield 91, 3) := decs_at bnc_x20_21 18 (x := (30, .getfield 91, 3)) rfl
theorem dX2_length_33 : decode cX2_length 33 = .ok (.arraylength, 1) := decs_at bnc_x20_21 19 (x := (33, .arraylength, 1)) rfl
theorem dX2_length_34 : decode cX2_length 34 = .ok (.ireturn, 1) := decs_at bnc_x20_21 20 (x := (34, .ireturn, 1)) rfl
set_option maxRecDepth 20000 in
theorem ggX2_count_X2_isSlot : GoodIn wsX2_count wsX2_isSlot := goodIn_r _ [8] rfl (by decide +kernel)
set_option maxRecDepth 20000 in
theorem gX2_count_X2_isSlot : GoodIn wsX2_count (va_wsS RX2 34 yX2_isSlot wsX2_isSlot) := goodIn_app (goodIn_r _ [5, 6, 7] rfl (by decide +kernel)) ggX2_count_X2_isSlot
set_option maxRecDepth 20000 in
theorem ggX2_count_X2_failureAs : GoodIn wsX2_count wsX2_failureAs := goodIn_r _ [11, 12, 13, 14, 15, 16, 17, 27, 28, 29, 30, 31, 32] rfl (by decide +kernel)
set_option maxRecDepth 20000 in
theorem gX2_count_X2_failureAs : GoodIn wsX2_count (va_wsS RX2 61 yX2_failureAs wsX2_failureAs) := goodIn_app (goodIn_r _ [9, 10, 7] rfl (by decide +kernel)) ggX2_count_X2_failureAs
theorem bnc_x20_22 : decs cX2_count [(0, .iload_n 1, 1), (1, .invokestatic 34, 3), (4, .ifCond .eq 12, 3), (7, .iload_n 2, 1), (8, .ifCond .lt 8, 3), (11, .iload_n 2, 1), (12, .iconst 2, 1), (13, .if_icmp .le 7, 3), (16, .ldc2_w 55, 3), (19, .lreturn, 1), (20, .aload_n 0, 1), (21, .getfield 11, 3), (24, .iload_n 1, 1), (25, .aaload, 1), (26, .astore_n 3, 1), (27, .aload_n 3, 1), (28, .iload_n 2, 1), (29, .invokestatic 61, 3), (32, .istore 4, 2), (34, .iload 4, 2), (36, .ifCond .eq 9, 3), (39, .iload 4, 2), (41, .i2l, 1), (42, .goto 13, 3)] = true := by decide +kernel
theorem dX2_count_0 : decode cX2_count 0 = .ok (.iload_n 1, 1) := decs_at bnc_x20_22 0 (x := (0, .iload_n 1, 1)) rfl
theorem dX2_count_1 : decode cX2_count 1 = .ok (.invokestatic 34, 3) := decs_at bnc_x20_22 1 (x := (1, .invokestatic 34, 3)) rfl
theorem dX2_count_4 : decode cX2_count 4 = .ok (.ifCond .eq 12, 3) := decs_at bnc_x20_22 2 (x := (4, .ifCond .eq 12, 3)) rfl
theorem dX2_count_7 : decode cX2_count 7 = .ok (.iload_n 2, 1) := decs_at bnc_x20_22 3 (x := (7, .iload_n 2, 1)) rfl
theorem dX2_count_8 : decode cX2_count 8 = .ok (.ifCond .lt 8, 3) := decs_at bnc_x20_22 4 (x := (8, .ifCond .lt 8, 3)) rfl
theorem dX2_count_11 : decode cX2_count 11 = .ok (.iload_n 2, 1) := decs_at bnc_x20_22 5 (x := (11, .iload_n 2, 1)) rfl
theorem dX2_count_12 : decode cX2_count 12 = .ok (.iconst 2, 1) := decs_at bnc_x20_22 6 (x := (12, .iconst 2, 1)) rfl
theorem dX2_count_13 : decode cX2_count 13 = .ok (.if_icmp .le 7, 3) := decs_at bnc_x20_22 7 (x := (13, .if_icmp .le 7, 3)) rfl
theorem dX2_count_16 : decode cX2_count 16 = .ok (.ldc2_w 55, 3) := decs_at bnc_x20_22 8 (x := (16, .ldc2_w 55, 3)) rfl
theorem dX2_count_19 : decode cX2_count 19 = .ok (.lreturn, 1) := decs_at bnc_x20_22 9 (x := (19, .lreturn, 1)) rfl
theorem dX2_count_20 : decode cX2_count 20 = .ok (.aload_n 0, 1) := decs_at bnc_x20_22 10 (x := (20, .aload_n 0, 1)) rfl
theorem dX2_count_21 : decode cX2_count 21 = .ok (.getfield 11, 3) := decs_at bnc_x20_22 11 (x := (21, .getfield 11, 3)) rfl
theorem dX2_count_24 : decode cX2_count 24 = .ok (.iload_n 1, 1) := decs_at bnc_x20_22 12 (x := (24, .iload_n 1, 1)) rfl
theorem dX2_count_25 : decode cX2_count 25 = .ok (.aaload, 1) := decs_at bnc_x20_22 13 (x := (25, .aaload, 1)) rfl
theorem dX2_count_26 : decode cX2_count 26 = .ok (.astore_n 3, 1) := decs_at bnc_x20_22 14 (x := (26, .astore_n 3, 1)) rfl
theorem dX2_count_27 : decode cX2_count 27 = .ok (.aload_n 3, 1) := decs_at bnc_x20_22 15 (x := (27, .aload_n 3, 1)) rfl
theorem dX2_count_28 : decode cX2_count 28 = .ok (.iload_n 2, 1) := decs_at bnc_x20_22 16 (x := (28, .iload_n 2, 1)) rfl
theorem dX2_count_29 : decode cX2_count 29 = .ok (.invokestatic 61, 3) := decs_at bnc_x20_22 17 (x := (29, .invokestatic 61, 3)) rfl
theorem dX2_count_32 : decode cX2_count 32 = .ok (.istore 4, 2) := decs_at bnc_x20_22 18 (x := (32, .istore 4, 2)) rfl
theorem dX2_count_34 : decode cX2_count 34 = .ok (.iload 4, 2) := decs_at bnc_x20_22 19 (x := (34, .iload 4, 2)) rfl
theorem dX2_count_36 : decode cX2_count 36 = .ok (.ifCond .eq 9, 3) := decs_at bnc_x20_22 20 (x := (36, .ifCond .eq 9, 3)) rfl
theorem dX2_count_39 : decode cX2_count 39 = .ok (.iload 4, 2) := decs_at bnc_x20_22 21 (x := (39, .iload 4, 2)) rfl
theorem dX2_count_41 : decode cX2_count 41 = .ok (.i2l, 1) := decs_at bnc_x20_22 22 (x := (41, .i2l, 1)) rfl
theorem dX2_count_42 : decode cX2_count 42 = .ok (.goto 13, 3) := decs_at bnc_x20_22 23 (x := (42, .goto 13, 3)) rfl
theorem bnc_x20_23 : decs cX2_count [(45, .aload_n 3, 1), (46, .getfield 65, 3), (49, .getstatic 98, 3), (52, .iload_n 2, 1), (53, .iaload, 1), (54, .laload, 1), (55, .lreturn, 1)] = true := by decide +kernel
theorem dX2_count_45 : decode cX2_count 45 = .ok (.aload_n 3, 1) := decs_at bnc_x20_23 0 (x := (45, .aload_n 3, 1)) rfl
theorem dX2_count_46 : decode cX2_count 46 = .ok (.getfield 65, 3) := decs_at bnc_x20_23 1 (x := (46, .getfield 65, 3)) rfl
theorem dX2_count_49 : decode cX2_count 49 = .ok (.getstatic 98, 3) := decs_at bnc_x20_23 2 (x := (49, .getstatic 98, 3)) rfl
theorem dX2_count_52 : decode cX2_count 52 = .ok (.iload_n 2, 1) := decs_at bnc_x20_23 3 (x := (52, .iload_n 2, 1)) rfl
theorem dX2_count_53 : decode cX2_count 53 = .ok (.iaload, 1) := decs_at bnc_x20_23 4 (x := (53, .iaload, 1)) rfl
theorem dX2_count_54 : decode cX2_count 54 = .ok (.laload, 1) := decs_at bnc_x20_23 5 (x := (54, .laload, 1)) rfl
theorem dX2_count_55 : decode cX2_count 55 = .ok (.lreturn, 1) := decs_at bnc_x20_23 6 (x := (55, .lreturn, 1)) rfl
set_option maxRecDepth 20000 in
theorem ggX2_call_X2_isSlot : GoodIn wsX2_call wsX2_isSlot := goodIn_r _ [6] rfl (by decide +kernel)
set_option maxRecDepth 20000 in
theorem gX2_call_X2_isSlot : GoodIn wsX2_call (va_wsS RX2 34 yX2_isSlot wsX2_isSlot) := goodIn_app (goodIn_r _ [3, 4, 5] rfl (by decide +kernel)) ggX2_call_X2_isSlot
set_option maxRecDepth 20000 in
theorem ggX2_call_X2_failureAs : GoodIn wsX2_call wsX2_failureAs := goodIn_r _ [9, 10, 11, 12, 13, 14, 15, 49, 50, 51, 52, 53, 54] rfl (by decide +kernel)
set_option maxRecDepth 20000 in
theorem gX2_call_X2_failureAs : GoodIn wsX2_call (va_wsS RX2 61 yX2_failureAs wsX2_failureAs) := goodIn_app (goodIn_r _ [7, 8, 5] rfl (by decide +kernel)) ggX2_call_X2_failureAs
set_option maxRecDepth 20000 in
theorem ggX2_call_X1_name : GoodIn wsX2_call wsX1_name := goodIn_r _ [19, 20, 15, 49, 50, 51, 52, 53, 54] rfl (by decide +kernel)
set_option maxRecDepth 20000 in
theorem gX2_call_X1_name : GoodIn wsX2_call (wsV RX2 101 RX1 yX1_name wsX1_name) := goodIn_app (goodIn_r _ [16, 17, 18, 13] rfl (by decide +kernel)) ggX2_call_X1_name
set_option maxRecDepth 20000 in
theorem ggX2_call_X1_secret : GoodIn wsX2_call wsX1_secret := goodIn_r _ [24, 20, 49, 50, 51, 52, 53, 54] rfl (by decide +kernel)
set_option maxRecDepth 20000 in
theorem gX2_call_X1_secret : GoodIn wsX2_call (wsV RX2 105 RX1 yX1_secret wsX1_secret) := goodIn_app (goodIn_r _ [21, 22, 23, 13] rfl (by decide +kernel)) ggX2_call_X1_secret
set_option maxRecDepth 20000 in
theorem ggX2_call_X1_depth : GoodIn wsX2_call wsX1_depth := goodIn_r _ [28, 29, 30, 31, 13, 32, 15, 33, 34, 35, 49, 50, 51, 52, 53, 54] rfl (by decide +kernel)
set_option maxRecDepth 20000 in
theorem gX2_call_X1_depth : GoodIn wsX2_call (wsV RX2 108 RX1 yX1_depth wsX1_depth) := goodIn_app (goodIn_r _ [25, 26, 27, 13] rfl (by decide +kernel)) ggX2_call_X1_depth
set_option maxRecDepth 20000 in
theorem ggX2_call_X1_kind : GoodIn wsX2_call wsX1_kind := goodIn_r _ [39, 15, 33, 49, 50, 51, 52, 53, 54] rfl (by decide +kernel)
set_option maxRecDepth 20000 in
theorem gX2_call_X1_kind : GoodIn wsX2_call (wsV RX2 111 RX1 yX1_kind wsX1_kind) := goodIn_app (goodIn_r _ [36, 37, 38, 13] rfl (by decide +kernel)) ggX2_call_X1_kind
