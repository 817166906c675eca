theorem bnb_x01_0 : decs cX0_init [(0, .aload_n 0, 1), (1, .invokespecial 3, 3), (4, .aload_n 0, 1), (5, .sipush 300, 3), (8, .newarray .int, 2), (10, .putfield 9, 3), (13, .aload_n 0, 1), (14, .sipush 300, 3), (17, .newarray .int, 2), (19, .putfield 15, 3), (22, .aload_n 0, 1), (23, .sipush 300, 3), (26, .newarray .long, 2), (28, .putfield 18, 3), (31, .return_, 1)] = true := by decide +kernel
theorem dX0_init_0 : decode cX0_init 0 = .ok (.aload_n 0, 1) := decs_at bnb_x01_0 0 (x := (0, .aload_n 0, 1)) rfl
theorem dX0_init_1 : decode cX0_init 1 = .ok (.invokespecial 3, 3) := decs_at bnb_x01_0 1 (x := (1, .invokespecial 3, 3)) rfl
theorem dX0_init_4 : decode cX0_init 4 = .ok (.aload_n 0, 1) := decs_at bnb_x01_0 2 (x := (4, .aload_n 0, 1)) rfl
theorem dX0_init_5 : decode cX0_init 5 = .ok (.sipush 300, 3) := decs_at bnb_x01_0 3 (x := (5, .sipush 300, 3)) rfl
theorem dX0_init_8 : decode cX0_init 8 = .ok (.newarray .int, 2) := decs_at bnb_x01_0 4 (x := (8, .newarray .int, 2)) rfl
theorem dX0_init_10 : decode cX0_init 10 = .ok (.putfield 9, 3) := decs_at bnb_x01_0 5 (x := (10, .putfield 9, 3)) rfl
theorem dX0_init_13 : decode cX0_init 13 = .ok (.aload_n 0, 1) := decs_at bnb_x01_0 6 (x := (13, .aload_n 0, 1)) rfl
theorem dX0_init_14 : decode cX0_init 14 = .ok (.sipush 300, 3) := decs_at bnb_x01_0 7 (x := (14, .sipush 300, 3)) rfl
theorem dX0_init_17 : decode cX0_init 17 = .ok (.newarray .int, 2) := decs_at bnb_x01_0 8 (x := (17, .newarray .int, 2)) rfl
theorem dX0_init_19 : decode cX0_init 19 = .ok (.putfield 15, 3) := decs_at bnb_x01_0 9 (x := (19, .putfield 15, 3)) rfl
theorem dX0_init_22 : decode cX0_init 22 = .ok (.aload_n 0, 1) := decs_at bnb_x01_0 10 (x := (22, .aload_n 0, 1)) rfl
theorem dX0_init_23 : decode cX0_init 23 = .ok (.sipush 300, 3) := decs_at bnb_x01_0 11 (x := (23, .sipush 300, 3)) rfl
theorem dX0_init_26 : decode cX0_init 26 = .ok (.newarray .long, 2) := decs_at bnb_x01_0 12 (x := (26, .newarray .long, 2)) rfl
theorem dX0_init_28 : decode cX0_init 28 = .ok (.putfield 18, 3) := decs_at bnb_x01_0 13 (x := (28, .putfield 18, 3)) rfl
theorem dX0_init_31 : decode cX0_init 31 = .ok (.return_, 1) := decs_at bnb_x01_0 14 (x := (31, .return_, 1)) rfl
theorem bnb_x01_1 : decs cX0_has [(0, .iload_n 1, 1), (1, .ifCond .lt 15, 3), (4, .iload_n 1, 1), (5, .aload_n 0, 1), (6, .getfield 22, 3), (9, .if_icmp .ge 7, 3), (12, .iconst 1, 1), (13, .goto 4, 3), (16, .iconst 0, 1), (17, .ireturn, 1)] = true := by decide +kernel
theorem dX0_has_0 : decode cX0_has 0 = .ok (.iload_n 1, 1) := decs_at bnb_x01_1 0 (x := (0, .iload_n 1, 1)) rfl
theorem dX0_has_1 : decode cX0_has 1 = .ok (.ifCond .lt 15, 3) := decs_at bnb_x01_1 1 (x := (1, .ifCond .lt 15, 3)) rfl
theorem dX0_has_4 : decode cX0_has 4 = .ok (.iload_n 1, 1) := decs_at bnb_x01_1 2 (x := (4, .iload_n 1, 1)) rfl
theorem dX0_has_5 : decode cX0_has 5 = .ok (.aload_n 0, 1) := decs_at bnb_x01_1 3 (x := (5, .aload_n 0, 1)) rfl
theorem dX0_has_6 : decode cX0_has 6 = .ok (.getfield 22, 3) := decs_at bnb_x01_1 4 (x := (6, .getfield 22, 3)) rfl
theorem dX0_has_9 : decode cX0_has 9 = .ok (.if_icmp .ge 7, 3) := decs_at bnb_x01_1 5 (x := (9, .if_icmp .ge 7, 3)) rfl
theorem dX0_has_12 : decode cX0_has 12 = .ok (.iconst 1, 1) := decs_at bnb_x01_1 6 (x := (12, .iconst 1, 1)) rfl
theorem dX0_has_13 : decode cX0_has 13 = .ok (.goto 4, 3) := decs_at bnb_x01_1 7 (x := (13, .goto 4, 3)) rfl
theorem dX0_has_16 : decode cX0_has 16 = .ok (.iconst 0, 1) := decs_at bnb_x01_1 8 (x := (16, .iconst 0, 1)) rfl
theorem dX0_has_17 : decode cX0_has 17 = .ok (.ireturn, 1) := decs_at bnb_x01_1 9 (x := (17, .ireturn, 1)) rfl
theorem bnb_x01_2 : decs cX0_add [(0, .aload_n 0, 1), (1, .getfield 22, 3), (4, .sipush 300, 3), (7, .if_icmp .lt 5, 3), (10, .iconst 0, 1), (11, .ireturn, 1), (12, .aload_n 0, 1), (13, .getfield 9, 3), (16, .aload_n 0, 1), (17, .getfield 22, 3), (20, .iload_n 1, 1), (21, .iastore, 1), (22, .aload_n 0, 1), (23, .getfield 15, 3), (26, .aload_n 0, 1), (27, .getfield 22, 3), (30, .iload_n 2, 1), (31, .iastore, 1), (32, .aload_n 0, 1), (33, .getfield 18, 3), (36, .aload_n 0, 1), (37, .getfield 22, 3), (40, .lload_n 3, 1), (41, .lastore, 1)] = true := by decide +kernel
theorem dX0_add_0 : decode cX0_add 0 = .ok (.aload_n 0, 1) := decs_at bnb_x01_2 0 (x := (0, .aload_n 0, 1)) rfl
theorem dX0_add_1 : decode cX0_add 1 = .ok (.getfield 22, 3) := decs_at bnb_x01_2 1 (x := (1, .getfield 22, 3)) rfl
theorem dX0_add_4 : decode cX0_add 4 = .ok (.sipush 300, 3) := decs_at bnb_x01_2 2 (x := (4, .sipush 300, 3)) rfl
theorem dX0_add_7 : decode cX0_add 7 = .ok (.if_icmp .lt 5, 3) := decs_at bnb_x01_2 3 (x := (7, .if_icmp .lt 5, 3)) rfl
theorem dX0_add_10 : decode cX0_add 10 = .ok (.iconst 0, 1) := decs_at bnb_x01_2 4 (x := (10, .iconst 0, 1)) rfl
theorem dX0_add_11 : decode cX0_add 11 = .ok (.ireturn, 1) := decs_at bnb_x01_2 5 (x := (11, .ireturn, 1)) rfl
theorem dX0_add_12 : decode cX0_add 12 = .ok (.aload_n 0, 1) := decs_at bnb_x01_2 6 (x := (12, .aload_n 0, 1)) rfl
theorem dX0_add_13 : decode cX0_add 13 = .ok (.getfield 9, 3) := decs_at bnb_x01_2 7 (x := (13, .getfield 9, 3)) rfl
theorem dX0_add_16 : decode cX0_add 16 = .ok (.aload_n 0, 1) := decs_at bnb_x01_2 8 (x := (16, .aload_n 0, 1)) rfl
theorem dX0_add_17 : decode cX0_add 17 = .ok (.getfield 22, 3) := decs_at bnb_x01_2 9 (x := (17, .getfield 22, 3)) rfl
theorem dX0_add_20 : decode cX0_add 20 = .ok (.iload_n 1, 1) := decs_at bnb_x01_2 10 (x := (20, .iload_n 1, 1)) rfl
theorem dX0_add_21 : decode cX0_add 21 = .ok (.iastore, 1) := decs_at bnb_x01_2 11 (x := (21, .iastore, 1)) rfl
theorem dX0_add_22 : decode cX0_add 22 = .ok (.aload_n 0, 1) := decs_at bnb_x01_2 12 (x := (22, .aload_n 0, 1)) rfl
theorem dX0_add_23 : decode cX0_add 23 = .ok (.getfield 15, 3) := decs_at bnb_x01_2 13 (x := (23, .getfield 15, 3)) rfl
theorem dX0_add_26 : decode cX0_add 26 = .ok (.aload_n 0, 1) := decs_at bnb_x01_2 14 (x := (26, .aload_n 0, 1)) rfl
theorem dX0_add_27 : decode cX0_add 27 = .ok (.getfield 22, 3) := decs_at bnb_x01_2 15 (x := (27, .getfield 22, 3)) rfl
theorem dX0_add_30 : decode cX0_add 30 = .ok (.iload_n 2, 1) := decs_at bnb_x01_2 16 (x := (30, .iload_n 2, 1)) rfl
theorem dX0_add_31 : decode cX0_add 31 = .ok (.iastore, 1) := decs_at bnb_x01_2 17 (x := (31, .iastore, 1)) rfl
theorem dX0_add_32 : decode cX0_add 32 = .ok (.aload_n 0, 1) := decs_at bnb_x01_2 18 (x := (32, .aload_n 0, 1)) rfl
theorem dX0_add_33 : decode cX0_add 33 = .ok (.getfield 18, 3) := decs_at bnb_x01_2 19 (x := (33, .getfield 18, 3)) rfl
theorem dX0_add_36 : decode cX0_add 36 = .ok (.aload_n 0, 1) := decs_at bnb_x01_2 20 (x := (36, .aload_n 0, 1)) rfl
theorem dX0_add_37 : decode cX0_add 37 = .ok (.getfield 22, 3) := decs_at bnb_x01_2 21 (x := (37, .getfield 22, 3)) rfl
theorem dX0_add_40 : decode cX0_add 40 = .ok (.lload_n 3, 1) := decs_at bnb_x01_2 22 (x := (40, .lload_n 3, 1)) rfl
theorem dX0_add_41 : decode cX0_add 41 = .ok (.lastore, 1) := decs_at bnb_x01_2 23 (x := (41, .lastore, 1)) rfl
theorem bnb_x01_3 : decs cX0_add [(42, .aload_n 0, 1), (43, .dup, 1), (44, .getfield 22, 3), (47, .iconst 1, 1), (48, .iadd, 1), (49, .putfield 22, 3), (52, .iconst 1, 1), (53, .ireturn, 1)] = true := by decide +kernel
theorem dX0_add_42 : decode cX0_add 42 = .ok (.aload_n 0, 1) := decs_at bnb_x01_3 0 (x := (42, .aload_n 0, 1)) rfl
theorem dX0_add_43 : decode cX0_add 43 = .ok (.dup, 1) := decs_at bnb_x01_3 1 (x := (43, .dup, 1)) rfl
theorem dX0_add_44 : decode cX0_add 44 = .ok (.getfield 22, 3) := decs_at bnb_x01_3 2 (x := (44, .getfield 22, 3)) rfl
theorem dX0_add_47 : decode cX0_add 47 = .ok (.iconst 1, 1) := decs_at bnb_x01_3 3 (x := (47, .iconst 1, 1)) rfl
theorem dX0_add_48 : decode cX0_add 48 = .ok (.iadd, 1) := decs_at bnb_x01_3 4 (x := (48, .iadd, 1)) rfl
theorem dX0_add_49 : decode cX0_add 49 = .ok (.putfield 22, 3) := decs_at bnb_x01_3 5 (x := (49, .putfield 22, 3)) rfl
theorem dX0_add_52 : decode cX0_add 52 = .ok (.iconst 1, 1) := decs_at bnb_x01_3 6 (x := (52, .iconst 1, 1)) rfl
theorem dX0_add_53 : decode cX0_add 53 = .ok (.ireturn, 1) := decs_at bnb_x01_3 7 (x := (53, .ireturn, 1)) rfl
theorem bnb_x01_4 : decs cX0_sameAs [(0, .aload_n 0, 1), (1, .getfield 22, 3), (4, .aload_n 1, 1), (5, .getfield 22, 3), (8, .if_icmp .eq 5, 3), (11, .iconst 0, 1), (12, .ireturn, 1), (13, .iconst 0, 1), (14, .istore_n 2, 1), (15, .iload_n 2, 1), (16, .aload_n 0, 1), (17, .getfield 22, 3), (20, .if_icmp .ge 57, 3), (23, .aload_n 0, 1), (24, .getfield 9, 3), (27, .iload_n 2, 1), (28, .iaload, 1), (29, .aload_n 1, 1), (30, .getfield 9, 3), (33, .iload_n 2, 1), (34, .iaload, 1), (35, .if_icmp .ne 34, 3), (38, .aload_n 0, 1), (39, .getfield 15, 3)] = true := by decide +kernel
theorem dX0_sameAs_0 : decode cX0_sameAs 0 = .ok (.aload_n 0, 1) := decs_at bnb_x01_4 0 (x := (0, .aload_n 0, 1)) rfl
theorem dX0_sameAs_1 : decode cX0_sameAs 1 = .ok (.getfield 22, 3) := decs_at bnb_x01_4 1 (x := (1, .getfield 22, 3)) rfl
theorem dX0_sameAs_4 : decode cX0_sameAs 4 = .ok (.aload_n 1, 1) := decs_at bnb_x01_4 2 (x := (4, .aload_n 1, 1)) rfl
theorem dX0_sameAs_5 : decode cX0_sameAs 5 = .ok (.getfield 22, 3) := decs_at bnb_x01_4 3 (x := (5, .getfield 22, 3)) rfl
theorem dX0_sameAs_8 : decode cX0_sameAs 8 = .ok (.if_icmp .eq 5, 3) := decs_at bnb_x01_4 4 (x := (8, .if_icmp .eq 5, 3)) rfl
theorem dX0_sameAs_11 : decode cX0_sameAs 11 = .ok (.iconst 0, 1) := decs_at bnb_x01_4 5 (x := (11, .iconst 0, 1)) rfl
theorem dX0_sameAs_12 : decode cX0_sameAs 12 = .ok (.ireturn, 1) := decs_at bnb_x01_4 6 (x := (12, .ireturn, 1)) rfl
theorem dX0_sameAs_13 : decode cX0_sameAs 13 = .ok (.iconst 0, 1) := decs_at bnb_x01_4 7 (x := (13, .iconst 0, 1)) rfl
theorem dX0_sameAs_14 : decode cX0_sameAs 14 = .ok (.istore_n 2, 1) := decs_at bnb_x01_4 8 (x := (14, .istore_n 2, 1)) rfl
theorem dX0_sameAs_15 : decode cX0_sameAs 15 = .ok (.iload_n 2, 1) := decs_at bnb_x01_4 9 (x := (15, .iload_n 2, 1)) rfl
theorem dX0_sameAs_16 : decode cX0_sameAs 16 = .ok (.aload_n 0, 1) := decs_at bnb_x01_4 10 (x := (16, .aload_n 0, 1)) rfl
theorem dX0_sameAs_17 : decode cX0_sameAs 17 = .ok (.getfield 22, 3) := decs_at bnb_x01_4 11 (x := (17, .getfield 22, 3)) rfl
theorem dX0_sameAs_20 : decode cX0_sameAs 20 = .ok (.if_icmp .ge 57, 3) := decs_at bnb_x01_4 12 (x := (20, .if_icmp .ge 57, 3)) rfl
theorem dX0_sameAs_23 : decode cX0_sameAs 23 = .ok (.aload_n 0, 1) := decs_at bnb_x01_4 13 (x := (23, .aload_n 0, 1)) rfl
theorem dX0_sameAs_24 : decode cX0_sameAs 24 = .ok (.getfield 9, 3) := decs_at bnb_x01_4 14 (x := (24, .getfield 9, 3)) rfl
theorem dX0_sameAs_27 : decode cX0_sameAs 27 = .ok (.iload_n 2, 1) := decs_at bnb_x01_4 15 (x := (27, .iload_n 2, 1)) rfl
theorem dX0_sameAs_28 : decode cX0_sameAs 28 = .ok (.iaload, 1) := decs_at bnb_x01_4 16 (x := (28, .iaload, 1)) rfl
theorem dX0_sameAs_29 : decode cX0_sameAs 29 = .ok (.aload_n 1, 1) := decs_at bnb_x01_4 17 (x := (29, .aload_n 1, 1)) rfl
theorem dX0_sameAs_30 : decode cX0_sameAs 30 = .ok (.getfield 9, 3) := decs_at bnb_x01_4 18 (x := (30, .getfield 9, 3)) rfl
theorem dX0_sameAs_33 : decode cX0_sameAs 33 = .ok (.iload_n 2, 1) := decs_at bnb_x01_4 19 (x := (33, .iload_n 2, 1)) rfl
theorem dX0_sameAs_34 : decode cX0_sameAs 34 = .ok (.iaload, 1) := decs_at bnb_x01_4 20 (x := (34, .iaload, 1)) rfl
theorem dX0_sameAs_35 : decode cX0_sameAs 35 = .ok (.if_icmp .ne 34, 3) := decs_at bnb_x01_4 21 (x := (35, .if_icmp .ne 34, 3)) rfl
theorem dX0_sameAs_38 : decode cX0_sameAs 38 = .ok (.aload_n 0, 1) := decs_at bnb_x01_4 22 (x := (38, .aload_n 0, 1)) rfl
theorem dX0_sameAs_39 : decode cX0_sameAs 39 = .ok (.getfield 15, 3) := decs_at bnb_x01_4 23 (x := (39, .getfield 15, 3)) rfl
theorem bnb_x01_5 : decs cX0_sameAs [(42, .iload_n 2, 1), (43, .iaload, 1), (44, .aload_n 1, 1), (45, .getfield 15, 3), (48, .iload_n 2, 1), (49, .iaload, 1), (50, .if_icmp .ne 19, 3), (53, .aload_n 0, 1), (54, .getfield 18, 3), (57, .iload_n 2, 1), (58, .laload, 1), (59, .aload_n 1, 1), (60, .getfield 18, 3), (63, .iload_n 2, 1), (64, .laload, 1), (65, .lcmp, 1), (66, .ifCond .eq 5, 3), (69, .iconst 0, 1), (70, .ireturn, 1), (71, .iinc 2 1, 3), (74, .goto (-59), 3), (77, .iconst 1, 1), (78, .ireturn, 1)] = true := by decide +kernel
theorem dX0_sameAs_42 : decode cX0_sameAs 42 = .ok (.iload_n 2, 1) := decs_at bnb_x01_5 0 (x := (42, .iload_n 2, 1)) rfl
theorem dX0_sameAs_43 : decode cX0_sameAs 43 = .ok (.iaload, 1) := decs_at bnb_x01_5 1 (x := (43, .iaload, 1)) rfl
theorem dX0_sameAs_44 : decode cX0_sameAs 44 = .ok (.aload_n 1, 1) := decs_at bnb_x01_5 2 (x := (44, .aload_n 1, 1)) rfl
theorem dX0_sameAs_45 : decode cX0_sameAs 45 = .ok (.getfield 15, 3) := decs_at bnb_x01_5 3 (x := (45, .getfield 15, 3)) rfl
theorem dX0_sameAs_48 : decode cX0_sameAs 48 = .ok (.iload_n 2, 1) := decs_at bnb_x01_5 4 (x := (48, .iload_n 2, 1)) rfl
theorem dX0_sameAs_49 : decode cX0_sameAs 49 = .ok (.iaload, 1) := decs_at bnb_x01_5 5 (x := (49, .iaload, 1)) rfl
theorem dX0_sameAs_50 : decode cX0_sameAs 50 = .ok (.if_icmp .ne 19, 3) := decs_at bnb_x01_5 6 (x := (50, .if_icmp .ne 19, 3)) rfl
theorem dX0_sameAs_53 : decode cX0_sameAs 53 = .ok (.aload_n 0, 1) := decs_at bnb_x01_5 7 (x := (53, .aload_n 0, 1)) rfl
theorem dX0_sameAs_54 : decode cX0_sameAs 54 = .ok (.getfield 18, 3) := decs_at bnb_x01_5 8 (x := (54, .getfield 18, 3)) rfl
theorem dX0_sameAs_57 : decode cX0_sameAs 57 = .ok (.iload_n 2, 1) := decs_at bnb_x01_5 9 (x := (57, .iload_n 2, 1)) rfl
theorem dX0_sameAs_58 : decode cX0_sameAs 58 = .ok (.laload, 1) := decs_at bnb_x01_5 10 (x := (58, .laload, 1)) rfl
theorem dX0_sameAs_59 : decode cX0_sameAs 59 = .ok (.aload_n 1, 1) := decs_at bnb_x01_5 11 (x := (59, .aload_n 1, 1)) rfl
theorem dX0_sameAs_60 : decode cX0_sameAs 60 = .ok (.getfield 18, 3) := decs_at bnb_x01_5 12 (x := (60, .getfield 18, 3)) rfl
theorem dX0_sameAs_63 : decode cX0_sameAs 63 = .ok (.iload_n 2, 1) := decs_at bnb_x01_5 13 (x := (63, .iload_n 2, 1)) rfl
theorem dX0_sameAs_64 : decode cX0_sameAs 64 = .ok (.laload, 1) := decs_at bnb_x01_5 14 (x := (64, .laload, 1)) rfl
theorem dX0_sameAs_65 : decode cX0_sameAs 65 = .ok (.lcmp, 1) := decs_at bnb_x01_5 15 (x := (65, .lcmp, 1)) rfl
theorem dX0_sameAs_66 : decode cX0_sameAs 66 = .ok (.ifCond .eq 5, 3) := decs_at bnb_x01_5 16 (x := (66, .ifCond .eq 5, 3)) rfl
theorem dX0_sameAs_69 : decode cX0_sameAs 69 = .ok (.iconst 0, 1) := decs_at bnb_x01_5 17 (x := (69, .iconst 0, 1)) rfl
theorem dX0_sameAs_70 : decode cX0_sameAs 70 = .ok (.ireturn, 1) := decs_at bnb_x01_5 18 (x := (70, .ireturn, 1)) rfl
theorem dX0_sameAs_71 : decode cX0_sameAs 71 = .ok (.iinc 2 1, 3) := decs_at bnb_x01_5 19 (x := (71, .iinc 2 1, 3)) rfl
theorem dX0_sameAs_74 : decode cX0_sameAs 74 = .ok (.goto (-59), 3) := decs_at bnb_x01_5 20 (x := (74, .goto (-59), 3)) rfl
theorem dX0_sameAs_77 : decode cX0_sameAs 77 = .ok (.iconst 1, 1) := decs_at bnb_x01_5 21 (x := (77, .iconst 1, 1)) rfl
theorem dX0_sameAs_78 : decode cX0_sameAs 78 = .ok (.ireturn, 1) := decs_at bnb_x01_5 22 (x := (78, .ireturn, 1)) rfl
set_option maxRecDepth 20000 in
theorem ggX0_toldToMaker_X2_isFinal : GoodIn wsX0_toldToMaker wsX2_isFinal := goodIn_r _ [6] rfl (by decide +kernel)
set_option maxRecDepth 20000 in
theorem gX0_toldToMaker_X2_isFinal_n26 : GoodIn wsX0_toldToMaker (wsX2_isFinal) := ggX0_toldToMaker_X2_isFinal
set_option maxRecDepth 20000 in
theorem ggX0_toldToMaker_X2_asTold : GoodIn wsX0_toldToMaker wsX2_asTold := goodIn_r _ [8, 9, 10, 11, 5, 12, 13, 14, 15, 16, 17, 18, 19, 20, 21] rfl (by decide +kernel)
set_option maxRecDepth 20000 in
theorem gX0_toldToMaker_X2_asTold_n30 : GoodIn wsX0_toldToMaker (wsX2_asTold) := ggX0_toldToMaker_X2_asTold
theorem bnb_x01_6 : decs cX0_toldToMaker [(0, .iload_n 1, 1), (1, .iconst 1, 1), (2, .iadd, 1), (3, .istore_n 2, 1), (4, .iload_n 2, 1), (5, .aload_n 0, 1), (6, .getfield 22, 3), (9, .if_icmp .ge 48, 3), (12, .aload_n 0, 1), (13, .getfield 15, 3), (16, .iload_n 2, 1), (17, .iaload, 1), (18, .iconst (-1), 1), (19, .if_icmp .eq 38, 3), (22, .aload_n 0, 1), (23, .getfield 15, 3), (26, .iload_n 2, 1), (27, .iaload, 1), (28, .invokestatic 26, 3), (31, .ifCond .eq 20, 3), (34, .aload_n 0, 1), (35, .getfield 15, 3), (38, .iload_n 2, 1), (39, .iaload, 1)] = true := by decide +kernel
theorem dX0_toldToMaker_0 : decode cX0_toldToMaker 0 = .ok (.iload_n 1, 1) := decs_at bnb_x01_6 0 (x := (0, .iload_n 1, 1)) rfl
theorem dX0_toldToMaker_1 : decode cX0_toldToMaker 1 = .ok (.iconst 1, 1) := decs_at bnb_x01_6 1 (x := (1, .iconst 1, 1)) rfl
theorem dX0_toldToMaker_2 : decode cX0_toldToMaker 2 = .ok (.iadd, 1) := decs_at bnb_x01_6 2 (x := (2, .iadd, 1)) rfl
theorem dX0_toldToMaker_3 : decode cX0_toldToMaker 3 = .ok (.istore_n 2, 1) := decs_at bnb_x01_6 3 (x := (3, .istore_n 2, 1)) rfl
theorem dX0_toldToMaker_4 : decode cX0_toldToMaker 4 = .ok (.iload_n 2, 1) := decs_at bnb_x01_6 4 (x := (4, .iload_n 2, 1)) rfl
theorem dX0_toldToMaker_5 : decode cX0_toldToMaker 5 = .ok (.aload_n 0, 1) := decs_at bnb_x01_6 5 (x := (5, .aload_n 0, 1)) rfl
theorem dX0_toldToMaker_6 : decode cX0_toldToMaker 6 = .ok (.getfield 22, 3) := decs_at bnb_x01_6 6 (x := (6, .getfield 22, 3)) rfl
theorem dX0_toldToMaker_9 : decode cX0_toldToMaker 9 = .ok (.if_icmp .ge 48, 3) := decs_at bnb_x01_6 7 (x := (9, .if_icmp .ge 48, 3)) rfl
theorem dX0_toldToMaker_12 : decode cX0_toldToMaker 12 = .ok (.aload_n 0, 1) := decs_at bnb_x01_6 8 (x := (12, .aload_n 0, 1)) rfl
theorem dX0_toldToMaker_13 : decode cX0_toldToMaker 13 = .ok (.getfield 15, 3) := decs_at bnb_x01_6 9 (x := (13, .getfield 15, 3)) rfl
theorem dX0_toldToMaker_16 : decode cX0_toldToMaker 16 = .ok (.iload_n 2, 1) := decs_at bnb_x01_6 10 (x := (16, .iload_n 2, 1)) rfl
theorem dX0_toldToMaker_17 : decode cX0_toldToMaker 17 = .ok (.iaload, 1) := decs_at bnb_x01_6 11 (x := (17, .iaload, 1)) rfl
theorem dX0_toldToMaker_18 : decode cX0_toldToMaker 18 = .ok (.iconst (-1), 1) := decs_at bnb_x01_6 12 (x := (18, .iconst (-1), 1)) rfl
theorem dX0_toldToMaker_19 : decode cX0_toldToMaker 19 = .ok (.if_icmp .eq 38, 3) := decs_at bnb_x01_6 13 (x := (19, .if_icmp .eq 38, 3)) rfl
theorem dX0_toldToMaker_22 : decode cX0_toldToMaker 22 = .ok (.aload_n 0, 1) := decs_at bnb_x01_6 14 (x := (22, .aload_n 0, 1)) rfl
theorem dX0_toldToMaker_23 : decode cX0_toldToMaker 23 = .ok (.getfield 15, 3) := decs_at bnb_x01_6 15 (x := (23, .getfield 15, 3)) rfl
theorem dX0_toldToMaker_26 : decode cX0_toldToMaker 26 = .ok (.iload_n 2, 1) := decs_at bnb_x01_6 16 (x := (26, .iload_n 2, 1)) rfl
theorem dX0_toldToMaker_27 : decode cX0_toldToMaker 27 = .ok (.iaload, 1) := decs_at bnb_x01_6 17 (x := (27, .iaload, 1)) rfl
theorem dX0_toldToMaker_28 : decode cX0_toldToMaker 28 = .ok (.invokestatic 26, 3) := decs_at bnb_x01_6 18 (x := (28, .invokestatic 26, 3)) rfl
theorem dX0_toldToMaker_31 : decode cX0_toldToMaker 31 = .ok (.ifCond .eq 20, 3) := decs_at bnb_x01_6 19 (x := (31, .ifCond .eq 20, 3)) rfl
theorem dX0_toldToMaker_34 : decode cX0_toldToMaker 34 = .ok (.aload_n 0, 1) := decs_at bnb_x01_6 20 (x := (34, .aload_n 0, 1)) rfl
theorem dX0_toldToMaker_35 : decode cX0_toldToMaker 35 = .ok (.getfield 15, 3) := decs_at bnb_x01_6 21 (x := (35, .getfield 15, 3)) rfl
theorem dX0_toldToMaker_38 : decode cX0_toldToMaker 38 = .ok (.iload_n 2, 1) := decs_at bnb_x01_6 22 (x := (38, .iload_n 2, 1)) rfl
theorem dX0_toldToMaker_39 : decode cX0_toldToMaker 39 = .ok (.iaload, 1) := decs_at bnb_x01_6 23 (x := (39, .iaload, 1)) rfl
theorem bnb_x01_7 : decs cX0_toldToMaker [(40, .aload_n 0, 1), (41, .getfield 18, 3), (44, .iload_n 2, 1), (45, .laload, 1), (46, .invokestatic 30, 3), (49, .l2i, 1), (50, .ireturn, 1), (51, .iinc 2 1, 3), (54, .goto (-50), 3), (57, .iconst 0, 1), (58, .ireturn, 1)] = true := by decide +kernel
theorem dX0_toldToMaker_40 : decode cX0_toldToMaker 40 = .ok (.aload_n 0, 1) := decs_at bnb_x01_7 0 (x := (40, .aload_n 0, 1)) rfl
theorem dX0_toldToMaker_41 : decode cX0_toldToMaker 41 = .ok (.getfield 18, 3) := decs_at bnb_x01_7 1 (x := (41, .getfield 18, 3)) rfl
theorem dX0_toldToMaker_44 : decode cX0_toldToMaker 44 = .ok (.iload_n 2, 1) := decs_at bnb_x01_7 2 (x := (44, .iload_n 2, 1)) rfl
theorem dX0_toldToMaker_45 : decode cX0_toldToMaker 45 = .ok (.laload, 1) := decs_at bnb_x01_7 3 (x := (45, .laload, 1)) rfl
theorem dX0_toldToMaker_46 : decode cX0_toldToMaker 46 = .ok (.invokestatic 30, 3) := decs_at bnb_x01_7 4 (x := (46, .invokestatic 30, 3)) rfl
theorem dX0_toldToMaker_49 : decode cX0_toldToMaker 49 = .ok (.l2i, 1) := decs_at bnb_x01_7 5 (x := (49, .l2i, 1)) rfl
theorem dX0_toldToMaker_50 : decode cX0_toldToMaker 50 = .ok (.ireturn, 1) := decs_at bnb_x01_7 6 (x := (50, .ireturn, 1)) rfl
theorem dX0_toldToMaker_51 : decode cX0_toldToMaker 51 = .ok (.iinc 2 1, 3) := decs_at bnb_x01_7 7 (x := (51, .iinc 2 1, 3)) rfl
theorem dX0_toldToMaker_54 : decode cX0_toldToMaker 54 = .ok (.goto (-50), 3) := decs_at bnb_x01_7 8 (x := (54, .goto (-50), 3)) rfl
theorem dX0_toldToMaker_57 : decode cX0_toldToMaker 57 = .ok (.iconst 0, 1) := decs_at bnb_x01_7 9 (x := (57, .iconst 0, 1)) rfl
theorem dX0_toldToMaker_58 : decode cX0_toldToMaker 58 = .ok (.ireturn, 1) := decs_at bnb_x01_7 10 (x := (58, .ireturn, 1)) rfl
theorem bnb_x01_8 : decs cX1_init [(0, .aload_n 0, 1), (1, .invokespecial 3, 3), (4, .aload_n 0, 1), (5, .bipush 17, 2), (7, .newarray .long, 2), (9, .putfield 9, 3), (12, .aload_n 0, 1), (13, .iload_n 1, 1), (14, .putfield 15, 3), (17, .iload_n 1, 1), (18, .iconst 2, 1), (19, .if_icmp .ne 15, 3), (22, .aload_n 0, 1), (23, .getfield 9, 3), (26, .bipush 13, 2), (28, .iload_n 2, 1), (29, .i2l, 1), (30, .lastore, 1), (31, .goto 17, 3), (34, .iload_n 1, 1), (35, .iconst 4, 1), (36, .if_icmp .ne 12, 3), (39, .aload_n 0, 1), (40, .getfield 9, 3)] = true := by decide +kernel
theorem dX1_init_0 : decode cX1_init 0 = .ok (.aload_n 0, 1) := decs_at bnb_x01_8 0 (x := (0, .aload_n 0, 1)) rfl
theorem dX1_init_1 : decode cX1_init 1 = .ok (.invokespecial 3, 3) := decs_at bnb_x01_8 1 (x := (1, .invokespecial 3, 3)) rfl
theorem dX1_init_4 : decode cX1_init 4 = .ok (.aload_n 0, 1) := decs_at bnb_x01_8 2 (x := (4, .aload_n 0, 1)) rfl
theorem dX1_init_5 : decode cX1_init 5 = .ok (.bipush 17, 2) := decs_at bnb_x01_8 3 (x := (5, .bipush 17, 2)) rfl
theorem dX1_init_7 : decode cX1_init 7 = .ok (.newarray .long, 2) := decs_at bnb_x01_8 4 (x := (7, .newarray .long, 2)) rfl
theorem dX1_init_9 : decode cX1_init 9 = .ok (.putfield 9, 3) := decs_at bnb_x01_8 5 (x := (9, .putfield 9, 3)) rfl
theorem dX1_init_12 : decode cX1_init 12 = .ok (.aload_n 0, 1) := decs_at bnb_x01_8 6 (x := (12, .aload_n 0, 1)) rfl
theorem dX1_init_13 : decode cX1_init 13 = .ok (.iload_n 1, 1) := decs_at bnb_x01_8 7 (x := (13, .iload_n 1, 1)) rfl
theorem dX1_init_14 : decode cX1_init 14 = .ok (.putfield 15, 3) := decs_at bnb_x01_8 8 (x := (14, .putfield 15, 3)) rfl
theorem dX1_init_17 : decode cX1_init 17 = .ok (.iload_n 1, 1) := decs_at bnb_x01_8 9 (x := (17, .iload_n 1, 1)) rfl
theorem dX1_init_18 : decode cX1_init 18 = .ok (.iconst 2, 1) := decs_at bnb_x01_8 10 (x := (18, .iconst 2, 1)) rfl
theorem dX1_init_19 : decode cX1_init 19 = .ok (.if_icmp .ne 15, 3) := decs_at bnb_x01_8 11 (x := (19, .if_icmp .ne 15, 3)) rfl
theorem dX1_init_22 : decode cX1_init 22 = .ok (.aload_n 0, 1) := decs_at bnb_x01_8 12 (x := (22, .aload_n 0, 1)) rfl
theorem dX1_init_23 : decode cX1_init 23 = .ok (.getfield 9, 3) := decs_at bnb_x01_8 13 (x := (23, .getfield 9, 3)) rfl
theorem dX1_init_26 : decode cX1_init 26 = .ok (.bipush 13, 2) := decs_at bnb_x01_8 14 (x := (26, .bipush 13, 2)) rfl
theorem dX1_init_28 : decode cX1_init 28 = .ok (.iload_n 2, 1) := decs_at bnb_x01_8 15 (x := (28, .iload_n 2, 1)) rfl
theorem dX1_init_29 : decode cX1_init 29 = .ok (.i2l, 1) := decs_at bnb_x01_8 16 (x := (29, .i2l, 1)) rfl
theorem dX1_init_30 : decode cX1_init 30 = .ok (.lastore, 1) := decs_at bnb_x01_8 17 (x := (30, .lastore, 1)) rfl
theorem dX1_init_31 : decode cX1_init 31 = .ok (.goto 17, 3) := decs_at bnb_x01_8 18 (x := (31, .goto 17, 3)) rfl
theorem dX1_init_34 : decode cX1_init 34 = .ok (.iload_n 1, 1) := decs_at bnb_x01_8 19 (x := (34, .iload_n 1, 1)) rfl
theorem dX1_init_35 : decode cX1_init 35 = .ok (.iconst 4, 1) := decs_at bnb_x01_8 20 (x := (35, .iconst 4, 1)) rfl
theorem dX1_init_36 : decode cX1_init 36 = .ok (.if_icmp .ne 12, 3) := decs_at bnb_x01_8 21 (x := (36, .if_icmp .ne 12, 3)) rfl
theorem dX1_init_39 : decode cX1_init 39 = .ok (.aload_n 0, 1) := decs_at bnb_x01_8 22 (x := (39, .aload_n 0, 1)) rfl
theorem dX1_init_40 : decode cX1_init 40 = .ok (.getfield 9, 3) := decs_at bnb_x01_8 23 (x := (40, .getfield 9, 3)) rfl
theorem bnb_x01_9 : decs cX1_init [(43, .bipush 16, 2), (45, .iload_n 2, 1), (46, .i2l, 1), (47, .lastore, 1), (48, .return_, 1)] = true := by decide +kernel
theorem dX1_init_43 : decode cX1_init 43 = .ok (.bipush 16, 2) := decs_at bnb_x01_9 0 (x := (43, .bipush 16, 2)) rfl
theorem dX1_init_45 : decode cX1_init 45 = .ok (.iload_n 2, 1) := decs_at bnb_x01_9 1 (x := (45, .iload_n 2, 1)) rfl
theorem dX1_init_46 : decode cX1_init 46 = .ok (.i2l, 1) := decs_at bnb_x01_9 2 (x := (46, .i2l, 1)) rfl
theorem dX1_init_47 : decode cX1_init 47 = .ok (.lastore, 1) := decs_at bnb_x01_9 3 (x := (47, .lastore, 1)) rfl
theorem dX1_init_48 : decode cX1_init 48 = .ok (.return_, 1) := decs_at bnb_x01_9 4 (x := (48, .return_, 1)) rfl
theorem bnb_x01_10 : decs cX1_isOf [(0, .iload_n 1, 1), (1, .iconst 5, 1), (2, .if_icmp .ne 17, 3), (5, .aload_n 0, 1), (6, .getfield 15, 3), (9, .iconst 4, 1), (10, .if_icmp .eq 7, 3), (13, .iconst 1, 1), (14, .goto 4, 3), (17, .iconst 0, 1), (18, .ireturn, 1), (19, .iload_n 1, 1), (20, .iconst 2, 1), (21, .if_icmp .gt 25, 3), (24, .aload_n 0, 1), (25, .getfield 15, 3), (28, .iload_n 1, 1), (29, .if_icmp .lt 15, 3), (32, .aload_n 0, 1), (33, .getfield 15, 3), (36, .iconst 2, 1), (37, .if_icmp .gt 7, 3), (40, .iconst 1, 1), (41, .goto 4, 3)] = true := by decide +kernel
theorem dX1_isOf_0 : decode cX1_isOf 0 = .ok (.iload_n 1, 1) := decs_at bnb_x01_10 0 (x := (0, .iload_n 1, 1)) rfl
theorem dX1_isOf_1 : decode cX1_isOf 1 = .ok (.iconst 5, 1) := decs_at bnb_x01_10 1 (x := (1, .iconst 5, 1)) rfl
theorem dX1_isOf_2 : decode cX1_isOf 2 = .ok (.if_icmp .ne 17, 3) := decs_at bnb_x01_10 2 (x := (2, .if_icmp .ne 17, 3)) rfl
theorem dX1_isOf_5 : decode cX1_isOf 5 = .ok (.aload_n 0, 1) := decs_at bnb_x01_10 3 (x := (5, .aload_n 0, 1)) rfl
theorem dX1_isOf_6 : decode cX1_isOf 6 = .ok (.getfield 15, 3) := decs_at bnb_x01_10 4 (x := (6, .getfield 15, 3)) rfl
theorem dX1_isOf_9 : decode cX1_isOf 9 = .ok (.iconst 4, 1) := decs_at bnb_x01_10 5 (x := (9, .iconst 4, 1)) rfl
theorem dX1_isOf_10 : decode cX1_isOf 10 = .ok (.if_icmp .eq 7, 3) := decs_at bnb_x01_10 6 (x := (10, .if_icmp .eq 7, 3)) rfl
theorem dX1_isOf_13 : decode cX1_isOf 13 = .ok (.iconst 1, 1) := decs_at bnb_x01_10 7 (x := (13, .iconst 1, 1)) rfl
theorem dX1_isOf_14 : decode cX1_isOf 14 = .ok (.goto 4, 3) := decs_at bnb_x01_10 8 (x := (14, .goto 4, 3)) rfl
theorem dX1_isOf_17 : decode cX1_isOf 17 = .ok (.iconst 0, 1) := decs_at bnb_x01_10 9 (x := (17, .iconst 0, 1)) rfl
theorem dX1_isOf_18 : decode cX1_isOf 18 = .ok (.ireturn, 1) := decs_at bnb_x01_10 10 (x := (18, .ireturn, 1)) rfl
theorem dX1_isOf_19 : decode cX1_isOf 19 = .ok (.iload_n 1, 1) := decs_at bnb_x01_10 11 (x := (19, .iload_n 1, 1)) rfl
theorem dX1_isOf_20 : decode cX1_isOf 20 = .ok (.iconst 2, 1) := decs_at bnb_x01_10 12 (x := (20, .iconst 2, 1)) rfl
theorem dX1_isOf_21 : decode cX1_isOf 21 = .ok (.if_icmp .gt 25, 3) := decs_at bnb_x01_10 13 (x := (21, .if_icmp .gt 25, 3)) rfl
theorem dX1_isOf_24 : decode cX1_isOf 24 = .ok (.aload_n 0, 1) := decs_at bnb_x01_10 14 (x := (24, .aload_n 0, 1)) rfl
theorem dX1_isOf_25 : decode cX1_isOf 25 = .ok (.getfield 15, 3) := decs_at bnb_x01_10 15 (x := (25, .getfield 15, 3)) rfl
theorem dX1_isOf_28 : decode cX1_isOf 28 = .ok (.iload_n 1, 1) := decs_at bnb_x01_10 16 (x := (28, .iload_n 1, 1)) rfl
theorem dX1_isOf_29 : decode cX1_isOf 29 = .ok (.if_icmp .lt 15, 3) := decs_at bnb_x01_10 17 (x := (29, .if_icmp .lt 15, 3)) rfl
theorem dX1_isOf_32 : decode cX1_isOf 32 = .ok (.aload_n 0, 1) := decs_at bnb_x01_10 18 (x := (32, .aload_n 0, 1)) rfl
theorem dX1_isOf_33 : decode cX1_isOf 33 = .ok (.getfield 15, 3) := decs_at bnb_x01_10 19 (x := (33, .getfield 15, 3)) rfl
theorem dX1_isOf_36 : decode cX1_isOf 36 = .ok (.iconst 2, 1) := decs_at bnb_x01_10 20 (x := (36, .iconst 2, 1)) rfl
theorem dX1_isOf_37 : decode cX1_isOf 37 = .ok (.if_icmp .gt 7, 3) := decs_at bnb_x01_10 21 (x := (37, .if_icmp .gt 7, 3)) rfl
theorem dX1_isOf_40 : decode cX1_isOf 40 = .ok (.iconst 1, 1) := decs_at bnb_x01_10 22 (x := (40, .iconst 1, 1)) rfl
theorem dX1_isOf_41 : decode cX1_isOf 41 = .ok (.goto 4, 3) := decs_at bnb_x01_10 23 (x := (41, .goto 4, 3)) rfl
theorem bnb_x01_11 : decs cX1_isOf [(44, .iconst 0, 1), (45, .ireturn, 1), (46, .aload_n 0, 1), (47, .getfield 15, 3), (50, .iload_n 1, 1), (51, .if_icmp .ne 7, 3), (54, .iconst 1, 1), (55, .goto 4, 3), (58, .iconst 0, 1), (59, .ireturn, 1)] = true := by decide +kernel
theorem dX1_isOf_44 : decode cX1_isOf 44 = .ok (.iconst 0, 1) := decs_at bnb_x01_11 0 (x := (44, .iconst 0, 1)) rfl
theorem dX1_isOf_45 : decode cX1_isOf 45 = .ok (.ireturn, 1) := decs_at bnb_x01_11 1 (x := (45, .ireturn, 1)) rfl
theorem dX1_isOf_46 : decode cX1_isOf 46 = .ok (.aload_n 0, 1) := decs_at bnb_x01_11 2 (x := (46, .aload_n 0, 1)) rfl
theorem dX1_isOf_47 : decode cX1_isOf 47 = .ok (.getfield 15, 3) := decs_at bnb_x01_11 3 (x := (47, .getfield 15, 3)) rfl
theorem dX1_isOf_50 : decode cX1_isOf 50 = .ok (.iload_n 1, 1) := decs_at bnb_x01_11 4 (x := (50, .iload_n 1, 1)) rfl
theorem dX1_isOf_51 : decode cX1_isOf 51 = .ok (.if_icmp .ne 7, 3) := decs_at bnb_x01_11 5 (x := (51, .if_icmp .ne 7, 3)) rfl
theorem dX1_isOf_54 : decode cX1_isOf 54 = .ok (.iconst 1, 1) := decs_at bnb_x01_11 6 (x := (54, .iconst 1, 1)) rfl
theorem dX1_isOf_55 : decode cX1_isOf 55 = .ok (.goto 4, 3) := decs_at bnb_x01_11 7 (x := (55, .goto 4, 3)) rfl
theorem dX1_isOf_58 : decode cX1_isOf 58 = .ok (.iconst 0, 1) := decs_at bnb_x01_11 8 (x := (58, .iconst 0, 1)) rfl
theorem dX1_isOf_59 : decode cX1_isOf 59 = .ok (.ireturn, 1) := decs_at bnb_x01_11 9 (x := (59, .ireturn, 1)) rfl
theorem bnb_x01_12 : decs cX1_held [(0, .iload_n 1, 1), (1, .lookupswitch 50 #[(8, 35), (11, 40), (15, 45)], 35), (36, .aload_n 0, 1), (37, .getfield 19, 3), (40, .areturn, 1), (41, .aload_n 0, 1), (42, .getfield 23, 3), (45, .areturn, 1), (46, .aload_n 0, 1), (47, .getfield 26, 3), (50, .areturn, 1), (51, .aconst_null, 1), (52, .areturn, 1)] = true := by decide +kernel
theorem dX1_held_0 : decode cX1_held 0 = .ok (.iload_n 1, 1) := decs_at bnb_x01_12 0 (x := (0, .iload_n 1, 1)) rfl
theorem dX1_held_1 : decode cX1_held 1 = .ok (.lookupswitch 50 #[(8, 35), (11, 40), (15, 45)], 35) := decs_at bnb_x01_12 1 (x := (1, .lookupswitch 50 #[(8, 35), (11, 40), (15, 45)], 35)) rfl
theorem dX1_held_36 : decode cX1_held 36 = .ok (.aload_n 0, 1) := decs_at bnb_x01_12 2 (x := (36, .aload_n 0, 1)) rfl
theorem dX1_held_37 : decode cX1_held 37 = .ok (.getfield 19, 3) := decs_at bnb_x01_12 3 (x := (37, .getfield 19, 3)) rfl
theorem dX1_held_40 : decode cX1_held 40 = .ok (.areturn, 1) := decs_at bnb_x01_12 4 (x := (40, .areturn, 1)) rfl
theorem dX1_held_41 : decode cX1_held 41 = .ok (.aload_n 0, 1) := decs_at bnb_x01_12 5 (x := (41, .aload_n 0, 1)) rfl
theorem dX1_held_42 : decode cX1_held 42 = .ok (.getfield 23, 3) := decs_at bnb_x01_12 6 (x := (42, .getfield 23, 3)) rfl
theorem dX1_held_45 : decode cX1_held 45 = .ok (.areturn, 1) := decs_at bnb_x01_12 7 (x := (45, .areturn, 1)) rfl
theorem dX1_held_46 : decode cX1_held 46 = .ok (.aload_n 0, 1) := decs_at bnb_x01_12 8 (x := (46, .aload_n 0, 1)) rfl
theorem dX1_held_47 : decode cX1_held 47 = .ok (.getfield 26, 3) := decs_at bnb_x01_12 9 (x := (47, .getfield 26, 3)) rfl
theorem dX1_held_50 : decode cX1_held 50 = .ok (.areturn, 1) := decs_at bnb_x01_12 10 (x := (50, .areturn, 1)) rfl
theorem dX1_held_51 : decode cX1_held 51 = .ok (.aconst_null, 1) := decs_at bnb_x01_12 11 (x := (51, .aconst_null, 1)) rfl
theorem dX1_held_52 : decode cX1_held 52 = .ok (.areturn, 1) := decs_at bnb_x01_12 12 (x := (52, .areturn, 1)) rfl
theorem bnb_x01_13 : decs cX1_hold [(0, .iload_n 1, 1), (1, .lookupswitch 59 #[(8, 35), (11, 43), (15, 51)], 35), (36, .aload_n 0, 1), (37, .aload_n 2, 1), (38, .putfield 19, 3), (41, .goto 19, 3), (44, .aload_n 0, 1), (45, .aload_n 2, 1), (46, .putfield 23, 3), (49, .goto 11, 3), (52, .aload_n 0, 1), (53, .aload_n 2, 1), (54, .putfield 26, 3), (57, .goto 3, 3), (60, .return_, 1)] = true := by decide +kernel
theorem dX1_hold_0 : decode cX1_hold 0 = .ok (.iload_n 1, 1) := decs_at bnb_x01_13 0 (x := (0, .iload_n 1, 1)) rfl
theorem dX1_hold_1 : decode cX1_hold 1 = .ok (.lookupswitch 59 #[(8, 35), (11, 43), (15, 51)], 35) := decs_at bnb_x01_13 1 (x := (1, .lookupswitch 59 #[(8, 35), (11, 43), (15, 51)], 35)) rfl
theorem dX1_hold_36 : decode cX1_hold 36 = .ok (.aload_n 0, 1) := decs_at bnb_x01_13 2 (x := (36, .aload_n 0, 1)) rfl
theorem dX1_hold_37 : decode cX1_hold 37 = .ok (.aload_n 2, 1) := decs_at bnb_x01_13 3 (x := (37, .aload_n 2, 1)) rfl
theorem dX1_hold_38 : decode cX1_hold 38 = .ok (.putfield 19, 3) := decs_at bnb_x01_13 4 (x := (38, .putfield 19, 3)) rfl
theorem dX1_hold_41 : decode cX1_hold 41 = .ok (.goto 19, 3) := decs_at bnb_x01_13 5 (x := (41, .goto 19, 3)) rfl
theorem dX1_hold_44 : decode cX1_hold 44 = .ok (.aload_n 0, 1) := decs_at bnb_x01_13 6 (x := (44, .aload_n 0, 1)) rfl
theorem dX1_hold_45 : decode cX1_hold 45 = .ok (.aload_n 2, 1) := decs_at bnb_x01_13 7 (x := (45, .aload_n 2, 1)) rfl
theorem dX1_hold_46 : decode cX1_hold 46 = .ok (.putfield 23, 3) := decs_at bnb_x01_13 8 (x := (46, .putfield 23, 3)) rfl
theorem dX1_hold_49 : decode cX1_hold 49 = .ok (.goto 11, 3) := decs_at bnb_x01_13 9 (x := (49, .goto 11, 3)) rfl
theorem dX1_hold_52 : decode cX1_hold 52 = .ok (.aload_n 0, 1) := decs_at bnb_x01_13 10 (x := (52, .aload_n 0, 1)) rfl
theorem dX1_hold_53 : decode cX1_hold 53 = .ok (.aload_n 2, 1) := decs_at bnb_x01_13 11 (x := (53, .aload_n 2, 1)) rfl
theorem dX1_hold_54 : decode cX1_hold 54 = .ok (.putfield 26, 3) := decs_at bnb_x01_13 12 (x := (54, .putfield 26, 3)) rfl
theorem dX1_hold_57 : decode cX1_hold 57 = .ok (.goto 3, 3) := decs_at bnb_x01_13 13 (x := (57, .goto 3, 3)) rfl
theorem dX1_hold_60 : decode cX1_hold 60 = .ok (.return_, 1) := decs_at bnb_x01_13 14 (x := (60, .return_, 1)) rfl
theorem bnb_x01_14 : decs cX1_leadsTo [(0, .aload_n 0, 1), (1, .getfield 15, 3), (4, .ifCond .ne 8, 3), (7, .aload_n 0, 1), (8, .getfield 19, 3), (11, .areturn, 1), (12, .aload_n 0, 1), (13, .getfield 15, 3), (16, .iconst 3, 1), (17, .if_icmp .ne 10, 3), (20, .aload_n 0, 1), (21, .getfield 26, 3), (24, .goto 7, 3), (27, .aload_n 0, 1), (28, .getfield 23, 3), (31, .areturn, 1)] = true := by decide +kernel
theorem dX1_leadsTo_0 : decode cX1_leadsTo 0 = .ok (.aload_n 0, 1) := decs_at bnb_x01_14 0 (x := (0, .aload_n 0, 1)) rfl
theorem dX1_leadsTo_1 : decode cX1_leadsTo 1 = .ok (.getfield 15, 3) := decs_at bnb_x01_14 1 (x := (1, .getfield 15, 3)) rfl
theorem dX1_leadsTo_4 : decode cX1_leadsTo 4 = .ok (.ifCond .ne 8, 3) := decs_at bnb_x01_14 2 (x := (4, .ifCond .ne 8, 3)) rfl
theorem dX1_leadsTo_7 : decode cX1_leadsTo 7 = .ok (.aload_n 0, 1) := decs_at bnb_x01_14 3 (x := (7, .aload_n 0, 1)) rfl
theorem dX1_leadsTo_8 : decode cX1_leadsTo 8 = .ok (.getfield 19, 3) := decs_at bnb_x01_14 4 (x := (8, .getfield 19, 3)) rfl
theorem dX1_leadsTo_11 : decode cX1_leadsTo 11 = .ok (.areturn, 1) := decs_at bnb_x01_14 5 (x := (11, .areturn, 1)) rfl
theorem dX1_leadsTo_12 : decode cX1_leadsTo 12 = .ok (.aload_n 0, 1) := decs_at bnb_x01_14 6 (x := (12, .aload_n 0, 1)) rfl
theorem dX1_leadsTo_13 : decode cX1_leadsTo 13 = .ok (.getfield 15, 3) := decs_at bnb_x01_14 7 (x := (13, .getfield 15, 3)) rfl
theorem dX1_leadsTo_16 : decode cX1_leadsTo 16 = .ok (.iconst 3, 1) := decs_at bnb_x01_14 8 (x := (16, .iconst 3, 1)) rfl
theorem dX1_leadsTo_17 : decode cX1_leadsTo 17 = .ok (.if_icmp .ne 10, 3) := decs_at bnb_x01_14 9 (x := (17, .if_icmp .ne 10, 3)) rfl
theorem dX1_leadsTo_20 : decode cX1_leadsTo 20 = .ok (.aload_n 0, 1) := decs_at bnb_x01_14 10 (x := (20, .aload_n 0, 1)) rfl
theorem dX1_leadsTo_21 : decode cX1_leadsTo 21 = .ok (.getfield 26, 3) := decs_at bnb_x01_14 11 (x := (21, .getfield 26, 3)) rfl
theorem dX1_leadsTo_24 : decode cX1_leadsTo 24 = .ok (.goto 7, 3) := decs_at bnb_x01_14 12 (x := (24, .goto 7, 3)) rfl
theorem dX1_leadsTo_27 : decode cX1_leadsTo 27 = .ok (.aload_n 0, 1) := decs_at bnb_x01_14 13 (x := (27, .aload_n 0, 1)) rfl
theorem dX1_leadsTo_28 : decode cX1_leadsTo 28 = .ok (.getfield 23, 3) := decs_at bnb_x01_14 14 (x := (28, .getfield 23, 3)) rfl
theorem dX1_leadsTo_31 : decode cX1_leadsTo 31 = .ok (.areturn, 1) := decs_at bnb_x01_14 15 (x := (31, .areturn, 1)) rfl
theorem bnb_x01_15 : decs cX1_name [(0, .iconst 1, 1), (1, .aload_n 0, 1), (2, .getfield 9, 3), (5, .iconst 4, 1), (6, .laload, 1), (7, .l2i, 1), (8, .iadd, 1), (9, .istore_n 1, 1), (10, .aload_n 0, 1), (11, .getfield 15, 3), (14, .ifCond .ne 5, 3), (17, .iload_n 1, 1), (18, .ireturn, 1), (19, .bipush 10, 2), (21, .iload_n 1, 1), (22, .imul, 1), (23, .aload_n 0, 1), (24, .getfield 9, 3), (27, .bipush 10, 2), (29, .laload, 1), (30, .l2i, 1), (31, .iadd, 1), (32, .aload_n 0, 1), (33, .getfield 9, 3)] = true := by decide +kernel
theorem dX1_name_0 : decode cX1_name 0 = .ok (.iconst 1, 1) := decs_at bnb_x01_15 0 (x := (0, .iconst 1, 1)) rfl
theorem dX1_name_1 : decode cX1_name 1 = .ok (.aload_n 0, 1) := decs_at bnb_x01_15 1 (x := (1, .aload_n 0, 1)) rfl
theorem dX1_name_2 : decode cX1_name 2 = .ok (.getfield 9, 3) := decs_at bnb_x01_15 2 (x := (2, .getfield 9, 3)) rfl
theorem dX1_name_5 : decode cX1_name 5 = .ok (.iconst 4, 1) := decs_at bnb_x01_15 3 (x := (5, .iconst 4, 1)) rfl
theorem dX1_name_6 : decode cX1_name 6 = .ok (.laload, 1) := decs_at bnb_x01_15 4 (x := (6, .laload, 1)) rfl
theorem dX1_name_7 : decode cX1_name 7 = .ok (.l2i, 1) := decs_at bnb_x01_15 5 (x := (7, .l2i, 1)) rfl
theorem dX1_name_8 : decode cX1_name 8 = .ok (.iadd, 1) := decs_at bnb_x01_15 6 (x := (8, .iadd, 1)) rfl
theorem dX1_name_9 : decode cX1_name 9 = .ok (.istore_n 1, 1) := decs_at bnb_x01_15 7 (x := (9, .istore_n 1, 1)) rfl
theorem dX1_name_10 : decode cX1_name 10 = .ok (.aload_n 0, 1) := decs_at bnb_x01_15 8 (x := (10, .aload_n 0, 1)) rfl
theorem dX1_name_11 : decode cX1_name 11 = .ok (.getfield 15, 3) := decs_at bnb_x01_15 9 (x := (11, .getfield 15, 3)) rfl
theorem dX1_name_14 : decode cX1_name 14 = .ok (.ifCond .ne 5, 3) := decs_at bnb_x01_15 10 (x := (14, .ifCond .ne 5, 3)) rfl
theorem dX1_name_17 : decode cX1_name 17 = .ok (.iload_n 1, 1) := decs_at bnb_x01_15 11 (x := (17, .iload_n 1, 1)) rfl
theorem dX1_name_18 : decode cX1_name 18 = .ok (.ireturn, 1) := decs_at bnb_x01_15 12 (x := (18, .ireturn, 1)) rfl
theorem dX1_name_19 : decode cX1_name 19 = .ok (.bipush 10, 2) := decs_at bnb_x01_15 13 (x := (19, .bipush 10, 2)) rfl
theorem dX1_name_21 : decode cX1_name 21 = .ok (.iload_n 1, 1) := decs_at bnb_x01_15 14 (x := (21, .iload_n 1, 1)) rfl
theorem dX1_name_22 : decode cX1_name 22 = .ok (.imul, 1) := decs_at bnb_x01_15 15 (x := (22, .imul, 1)) rfl
theorem dX1_name_23 : decode cX1_name 23 = .ok (.aload_n 0, 1) := decs_at bnb_x01_15 16 (x := (23, .aload_n 0, 1)) rfl
theorem dX1_name_24 : decode cX1_name 24 = .ok (.getfield 9, 3) := decs_at bnb_x01_15 17 (x := (24, .getfield 9, 3)) rfl
theorem dX1_name_27 : decode cX1_name 27 = .ok (.bipush 10, 2) := decs_at bnb_x01_15 18 (x := (27, .bipush 10, 2)) rfl
theorem dX1_name_29 : decode cX1_name 29 = .ok (.laload, 1) := decs_at bnb_x01_15 19 (x := (29, .laload, 1)) rfl
theorem dX1_name_30 : decode cX1_name 30 = .ok (.l2i, 1) := decs_at bnb_x01_15 20 (x := (30, .l2i, 1)) rfl
theorem dX1_name_31 : decode cX1_name 31 = .ok (.iadd, 1) := decs_at bnb_x01_15 21 (x := (31, .iadd, 1)) rfl
theorem dX1_name_32 : decode cX1_name 32 = .ok (.aload_n 0, 1) := decs_at bnb_x01_15 22 (x := (32, .aload_n 0, 1)) rfl
theorem dX1_name_33 : decode cX1_name 33 = .ok (.getfield 9, 3) := decs_at bnb_x01_15 23 (x := (33, .getfield 9, 3)) rfl
theorem bnb_x01_16 : decs cX1_name [(36, .bipush 13, 2), (38, .laload, 1), (39, .l2i, 1), (40, .iadd, 1), (41, .ireturn, 1)] = true := by decide +kernel
theorem dX1_name_36 : decode cX1_name 36 = .ok (.bipush 13, 2) := decs_at bnb_x01_16 0 (x := (36, .bipush 13, 2)) rfl
theorem dX1_name_38 : decode cX1_name 38 = .ok (.laload, 1) := decs_at bnb_x01_16 1 (x := (38, .laload, 1)) rfl
theorem dX1_name_39 : decode cX1_name 39 = .ok (.l2i, 1) := decs_at bnb_x01_16 2 (x := (39, .l2i, 1)) rfl
theorem dX1_name_40 : decode cX1_name 40 = .ok (.iadd, 1) := decs_at bnb_x01_16 3 (x := (40, .iadd, 1)) rfl
theorem dX1_name_41 : decode cX1_name 41 = .ok (.ireturn, 1) := decs_at bnb_x01_16 4 (x := (41, .ireturn, 1)) rfl
theorem bnb_x01_17 : decs cX1_secret [(0, .aload_n 0, 1), (1, .getfield 9, 3), (4, .iconst 1, 1), (5, .laload, 1), (6, .l2i, 1), (7, .aload_n 0, 1), (8, .getfield 9, 3), (11, .iconst 2, 1), (12, .laload, 1), (13, .l2i, 1), (14, .iadd, 1), (15, .ireturn, 1)] = true := by decide +kernel
theorem dX1_secret_0 : decode cX1_secret 0 = .ok (.aload_n 0, 1) := decs_at bnb_x01_17 0 (x := (0, .aload_n 0, 1)) rfl
theorem dX1_secret_1 : decode cX1_secret 1 = .ok (.getfield 9, 3) := decs_at bnb_x01_17 1 (x := (1, .getfield 9, 3)) rfl
theorem dX1_secret_4 : decode cX1_secret 4 = .ok (.iconst 1, 1) := decs_at bnb_x01_17 2 (x := (4, .iconst 1, 1)) rfl
theorem dX1_secret_5 : decode cX1_secret 5 = .ok (.laload, 1) := decs_at bnb_x01_17 3 (x := (5, .laload, 1)) rfl
theorem dX1_secret_6 : decode cX1_secret 6 = .ok (.l2i, 1) := decs_at bnb_x01_17 4 (x := (6, .l2i, 1)) rfl
theorem dX1_secret_7 : decode cX1_secret 7 = .ok (.aload_n 0, 1) := decs_at bnb_x01_17 5 (x := (7, .aload_n 0, 1)) rfl
theorem dX1_secret_8 : decode cX1_secret 8 = .ok (.getfield 9, 3) := decs_at bnb_x01_17 6 (x := (8, .getfield 9, 3)) rfl
theorem dX1_secret_11 : decode cX1_secret 11 = .ok (.iconst 2, 1) := decs_at bnb_x01_17 7 (x := (11, .iconst 2, 1)) rfl
theorem dX1_secret_12 : decode cX1_secret 12 = .ok (.laload, 1) := decs_at bnb_x01_17 8 (x := (12, .laload, 1)) rfl
theorem dX1_secret_13 : decode cX1_secret 13 = .ok (.l2i, 1) := decs_at bnb_x01_17 9 (x := (13, .l2i, 1)) rfl
theorem dX1_secret_14 : decode cX1_secret 14 = .ok (.iadd, 1) := decs_at bnb_x01_17 10 (x := (14, .iadd, 1)) rfl
theorem dX1_secret_15 : decode cX1_secret 15 = .ok (.ireturn, 1) := decs_at bnb_x01_17 11 (x := (15, .ireturn, 1)) rfl
set_option maxRecDepth 20000 in
theorem ggX1_depth_X1_leadsTo : GoodIn wsX1_depth wsX1_leadsTo := goodIn_r _ [5, 6, 7, 8, 9, 10, 11, 12, 13, 14, 15] rfl (by decide +kernel)
set_option maxRecDepth 20000 in
theorem gX1_depth_X1_leadsTo : GoodIn wsX1_depth (wsV RX1 29 RX1 yX1_leadsTo wsX1_leadsTo) := goodIn_app (goodIn_r _ [1, 2, 3, 4] rfl (by decide +kernel)) ggX1_depth_X1_leadsTo
theorem bnb_x01_18 : decs cX1_depth [(0, .iconst 0, 1), (1, .istore_n 1, 1), (2, .aload_n 0, 1), (3, .invokevirtual 29, 3), (6, .astore_n 2, 1), (7, .aload_n 2, 1), (8, .ifnull 20, 3), (11, .iload_n 1, 1), (12, .bipush 50, 2), (14, .if_icmp .ge 14, 3), (17, .iinc 1 1, 3), (20, .aload_n 2, 1), (21, .invokevirtual 29, 3), (24, .astore_n 2, 1), (25, .goto (-18), 3), (28, .iload_n 1, 1), (29, .ireturn, 1)] = true := by decide +kernel
theorem dX1_depth_0 : decode cX1_depth 0 = .ok (.iconst 0, 1) := decs_at bnb_x01_18 0 (x := (0, .iconst 0, 1)) rfl
theorem dX1_depth_1 : decode cX1_depth 1 = .ok (.istore_n 1, 1) := decs_at bnb_x01_18 1 (x := (1, .istore_n 1, 1)) rfl
theorem dX1_depth_2 : decode cX1_depth 2 = .ok (.aload_n 0, 1) := decs_at bnb_x01_18 2 (x := (2, .aload_n 0, 1)) rfl
theorem dX1_depth_3 : decode cX1_depth 3 = .ok (.invokevirtual 29, 3) := decs_at bnb_x01_18 3 (x := (3, .invokevirtual 29, 3)) rfl
theorem dX1_depth_6 : decode cX1_depth 6 = .ok (.astore_n 2, 1) := decs_at bnb_x01_18 4 (x := (6, .astore_n 2, 1)) rfl
theorem dX1_depth_7 : decode cX1_depth 7 = .ok (.aload_n 2, 1) := decs_at bnb_x01_18 5 (x := (7, .aload_n 2, 1)) rfl
theorem dX1_depth_8 : decode cX1_depth 8 = .ok (.ifnull 20, 3) := decs_at bnb_x01_18 6 (x := (8, .ifnull 20, 3)) rfl
theorem dX1_depth_11 : decode cX1_depth 11 = .ok (.iload_n 1, 1) := decs_at bnb_x01_18 7 (x := (11, .iload_n 1, 1)) rfl
theorem dX1_depth_12 : decode cX1_depth 12 = .ok (.bipush 50, 2) := decs_at bnb_x01_18 8 (x := (12, .bipush 50, 2)) rfl
theorem dX1_depth_14 : decode cX1_depth 14 = .ok (.if_icmp .ge 14, 3) := decs_at bnb_x01_18 9 (x := (14, .if_icmp .ge 14, 3)) rfl
theorem dX1_depth_17 : decode cX1_depth 17 = .ok (.iinc 1 1, 3) := decs_at bnb_x01_18 10 (x := (17, .iinc 1 1, 3)) rfl
theorem dX1_depth_20 : decode cX1_depth 20 = .ok (.aload_n 2, 1) := decs_at bnb_x01_18 11 (x := (20, .aload_n 2, 1)) rfl
theorem dX1_depth_21 : decode cX1_depth 21 = .ok (.invokevirtual 29, 3) := decs_at bnb_x01_18 12 (x := (21, .invokevirtual 29, 3)) rfl
theorem dX1_depth_24 : decode cX1_depth 24 = .ok (.astore_n 2, 1) := decs_at bnb_x01_18 13 (x := (24, .astore_n 2, 1)) rfl
theorem dX1_depth_25 : decode cX1_depth 25 = .ok (.goto (-18), 3) := decs_at bnb_x01_18 14 (x := (25, .goto (-18), 3)) rfl
theorem dX1_depth_28 : decode cX1_depth 28 = .ok (.iload_n 1, 1) := decs_at bnb_x01_18 15 (x := (28, .iload_n 1, 1)) rfl
theorem dX1_depth_29 : decode cX1_depth 29 = .ok (.ireturn, 1) := decs_at bnb_x01_18 16 (x := (29, .ireturn, 1)) rfl
theorem bnb_x01_19 : decs cX1_kind [(0, .aload_n 0, 1), (1, .getfield 15, 3), (4, .iconst 3, 1), (5, .if_icmp .ne 6, 3), (8, .bipush 7, 2), (10, .ireturn, 1), (11, .iconst 0, 1), (12, .istore_n 1, 1), (13, .iconst 1, 1), (14, .istore_n 2, 1), (15, .aload_n 0, 1), (16, .astore_n 3, 1), (17, .iconst 0, 1), (18, .istore 4, 2), (20, .iload 4, 2), (22, .bipush 8, 2), (24, .if_icmp .ge 34, 3), (27, .aload_n 3, 1), (28, .ifnull 30, 3), (31, .iload_n 1, 1), (32, .iload_n 2, 1), (33, .aload_n 3, 1), (34, .getfield 15, 3), (37, .iconst 1, 1)] = true := by decide +kernel
theorem dX1_kind_0 : decode cX1_kind 0 = .ok (.aload_n 0, 1) := decs_at bnb_x01_19 0 (x := (0, .aload_n 0, 1)) rfl
theorem dX1_kind_1 : decode cX1_kind 1 = .ok (.getfield 15, 3) := decs_at bnb_x01_19 1 (x := (1, .getfield 15, 3)) rfl
theorem dX1_kind_4 : decode cX1_kind 4 = .ok (.iconst 3, 1) := decs_at bnb_x01_19 2 (x := (4, .iconst 3, 1)) rfl
theorem dX1_kind_5 : decode cX1_kind 5 = .ok (.if_icmp .ne 6, 3) := decs_at bnb_x01_19 3 (x := (5, .if_icmp .ne 6, 3)) rfl
theorem dX1_kind_8 : decode cX1_kind 8 = .ok (.bipush 7, 2) := decs_at bnb_x01_19 4 (x := (8, .bipush 7, 2)) rfl
theorem dX1_kind_10 : decode cX1_kind 10 = .ok (.ireturn, 1) := decs_at bnb_x01_19 5 (x := (10, .ireturn, 1)) rfl
theorem dX1_kind_11 : decode cX1_kind 11 = .ok (.iconst 0, 1) := decs_at bnb_x01_19 6 (x := (11, .iconst 0, 1)) rfl
theorem dX1_kind_12 : decode cX1_kind 12 = .ok (.istore_n 1, 1) := decs_at bnb_x01_19 7 (x := (12, .istore_n 1, 1)) rfl
theorem dX1_kind_13 : decode cX1_kind 13 = .ok (.iconst 1, 1) := decs_at bnb_x01_19 8 (x := (13, .iconst 1, 1)) rfl
theorem dX1_kind_14 : decode cX1_kind 14 = .ok (.istore_n 2, 1) := decs_at bnb_x01_19 9 (x := (14, .istore_n 2, 1)) rfl
theorem dX1_kind_15 : decode cX1_kind 15 = .ok (.aload_n 0, 1) := decs_at bnb_x01_19 10 (x := (15, .aload_n 0, 1)) rfl
theorem dX1_kind_16 : decode cX1_kind 16 = .ok (.astore_n 3, 1) := decs_at bnb_x01_19 11 (x := (16, .astore_n 3, 1)) rfl
theorem dX1_kind_17 : decode cX1_kind 17 = .ok (.iconst 0, 1) := decs_at bnb_x01_19 12 (x := (17, .iconst 0, 1)) rfl
theorem dX1_kind_18 : decode cX1_kind 18 = .ok (.istore 4, 2) := decs_at bnb_x01_19 13 (x := (18, .istore 4, 2)) rfl
theorem dX1_kind_20 : decode cX1_kind 20 = .ok (.iload 4, 2) := decs_at bnb_x01_19 14 (x := (20, .iload 4, 2)) rfl
theorem dX1_kind_22 : decode cX1_kind 22 = .ok (.bipush 8, 2) := decs_at bnb_x01_19 15 (x := (22, .bipush 8, 2)) rfl
theorem dX1_kind_24 : decode cX1_kind 24 = .ok (.if_icmp .ge 34, 3) := decs_at bnb_x01_19 16 (x := (24, .if_icmp .ge 34, 3)) rfl
theorem dX1_kind_27 : decode cX1_kind 27 = .ok (.aload_n 3, 1) := decs_at bnb_x01_19 17 (x := (27, .aload_n 3, 1)) rfl
theorem dX1_kind_28 : decode cX1_kind 28 = .ok (.ifnull 30, 3) := decs_at bnb_x01_19 18 (x := (28, .ifnull 30, 3)) rfl
theorem dX1_kind_31 : decode cX1_kind 31 = .ok (.iload_n 1, 1) := decs_at bnb_x01_19 19 (x := (31, .iload_n 1, 1)) rfl
theorem dX1_kind_32 : decode cX1_kind 32 = .ok (.iload_n 2, 1) := decs_at bnb_x01_19 20 (x := (32, .iload_n 2, 1)) rfl
theorem dX1_kind_33 : decode cX1_kind 33 = .ok (.aload_n 3, 1) := decs_at bnb_x01_19 21 (x := (33, .aload_n 3, 1)) rfl
theorem dX1_kind_34 : decode cX1_kind 34 = .ok (.getfield 15, 3) := decs_at bnb_x01_19 22 (x := (34, .getfield 15, 3)) rfl
theorem dX1_kind_37 : decode cX1_kind 37 = .ok (.iconst 1, 1) := decs_at bnb_x01_19 23 (x := (37, .iconst 1, 1)) rfl
theorem bnb_x01_20 : decs cX1_kind [(38, .iadd, 1), (39, .imul, 1), (40, .iadd, 1), (41, .istore_n 1, 1), (42, .iload_n 2, 1), (43, .bipush 10, 2), (45, .imul, 1), (46, .istore_n 2, 1), (47, .aload_n 3, 1), (48, .getfield 19, 3), (51, .astore_n 3, 1), (52, .iinc 4 1, 3), (55, .goto (-35), 3), (58, .iload_n 1, 1), (59, .ireturn, 1)] = true := by decide +kernel
theorem dX1_kind_38 : decode cX1_kind 38 = .ok (.iadd, 1) := decs_at bnb_x01_20 0 (x := (38, .iadd, 1)) rfl
theorem dX1_kind_39 : decode cX1_kind 39 = .ok (.imul, 1) := decs_at bnb_x01_20 1 (x := (39, .imul, 1)) rfl
theorem dX1_kind_40 : decode cX1_kind 40 = .ok (.iadd, 1) := decs_at bnb_x01_20 2 (x := (40, .iadd, 1)) rfl
theorem dX1_kind_41 : decode cX1_kind 41 = .ok (.istore_n 1, 1) := decs_at bnb_x01_20 3 (x := (41, .istore_n 1, 1)) rfl
theorem dX1_kind_42 : decode cX1_kind 42 = .ok (.iload_n 2, 1) := decs_at bnb_x01_20 4 (x := (42, .iload_n 2, 1)) rfl
theorem dX1_kind_43 : decode cX1_kind 43 = .ok (.bipush 10, 2) := decs_at bnb_x01_20 5 (x := (43, .bipush 10, 2)) rfl
theorem dX1_kind_45 : decode cX1_kind 45 = .ok (.imul, 1) := decs_at bnb_x01_20 6 (x := (45, .imul, 1)) rfl
theorem dX1_kind_46 : decode cX1_kind 46 = .ok (.istore_n 2, 1) := decs_at bnb_x01_20 7 (x := (46, .istore_n 2, 1)) rfl
theorem dX1_kind_47 : decode cX1_kind 47 = .ok (.aload_n 3, 1) := decs_at bnb_x01_20 8 (x := (47, .aload_n 3, 1)) rfl
theorem dX1_kind_48 : decode cX1_kind 48 = .ok (.getfield 19, 3) := decs_at bnb_x01_20 9 (x := (48, .getfield 19, 3)) rfl
theorem dX1_kind_51 : decode cX1_kind 51 = .ok (.astore_n 3, 1) := decs_at bnb_x01_20 10 (x := (51, .astore_n 3, 1)) rfl
theorem dX1_kind_52 : decode cX1_kind 52 = .ok (.iinc 4 1, 3) := decs_at bnb_x01_20 11 (x := (52, .iinc 4 1, 3)) rfl
theorem dX1_kind_55 : decode cX1_kind 55 = .ok (.goto (-35), 3) := decs_at bnb_x01_20 12 (x := (55, .goto (-35), 3)) rfl
theorem dX1_kind_58 : decode cX1_kind 58 = .ok (.iload_n 1, 1) := decs_at bnb_x01_20 13 (x := (58, .iload_n 1, 1)) rfl
theorem dX1_kind_59 : decode cX1_kind 59 = .ok (.ireturn, 1) := decs_at bnb_x01_20 14 (x := (59, .ireturn, 1)) rfl
set_option maxRecDepth 20000 in
theorem ggX2_init_X0_init : GoodIn wsX2_init wsX0_init := goodIn_r _ [15, 16, 2, 3, 17, 18, 19, 20, 21, 31, 32, 33, 34] rfl (by decide +kernel)
set_option maxRecDepth 20000 in
theorem gX2_init_X0_init_n17 : GoodIn wsX2_init (wsX0_init) := ggX2_init_X0_init
