theorem bnd_x30_0 : decs cX3_init [(0, .aload_n 0, 1), (1, .invokespecial 1, 3), (4, .aload_n 0, 1), (5, .bipush 12, 2), (7, .newarray .int, 2), (9, .putfield 7, 3), (12, .aload_n 0, 1), (13, .sipush 6400, 3), (16, .newarray .int, 2), (18, .putfield 13, 3), (21, .aload_n 0, 1), (22, .ldc 16, 2), (24, .newarray .long, 2), (26, .putfield 17, 3), (29, .aload_n 0, 1), (30, .sipush 6400, 3), (33, .newarray .int, 2), (35, .putfield 21, 3), (38, .aload_n 0, 1), (39, .ldc 24, 2), (41, .newarray .int, 2), (43, .putfield 25, 3), (46, .aload_n 0, 1), (47, .sipush 6400, 3)] = true := by decide +kernel
theorem dX3_init_0 : decode cX3_init 0 = .ok (.aload_n 0, 1) := decs_at bnd_x30_0 0 (x := (0, .aload_n 0, 1)) rfl
theorem dX3_init_1 : decode cX3_init 1 = .ok (.invokespecial 1, 3) := decs_at bnd_x30_0 1 (x := (1, .invokespecial 1, 3)) rfl
theorem dX3_init_4 : decode cX3_init 4 = .ok (.aload_n 0, 1) := decs_at bnd_x30_0 2 (x := (4, .aload_n 0, 1)) rfl
theorem dX3_init_5 : decode cX3_init 5 = .ok (.bipush 12, 2) := decs_at bnd_x30_0 3 (x := (5, .bipush 12, 2)) rfl
theorem dX3_init_7 : decode cX3_init 7 = .ok (.newarray .int, 2) := decs_at bnd_x30_0 4 (x := (7, .newarray .int, 2)) rfl
theorem dX3_init_9 : decode cX3_init 9 = .ok (.putfield 7, 3) := decs_at bnd_x30_0 5 (x := (9, .putfield 7, 3)) rfl
theorem dX3_init_12 : decode cX3_init 12 = .ok (.aload_n 0, 1) := decs_at bnd_x30_0 6 (x := (12, .aload_n 0, 1)) rfl
theorem dX3_init_13 : decode cX3_init 13 = .ok (.sipush 6400, 3) := decs_at bnd_x30_0 7 (x := (13, .sipush 6400, 3)) rfl
theorem dX3_init_16 : decode cX3_init 16 = .ok (.newarray .int, 2) := decs_at bnd_x30_0 8 (x := (16, .newarray .int, 2)) rfl
theorem dX3_init_18 : decode cX3_init 18 = .ok (.putfield 13, 3) := decs_at bnd_x30_0 9 (x := (18, .putfield 13, 3)) rfl
theorem dX3_init_21 : decode cX3_init 21 = .ok (.aload_n 0, 1) := decs_at bnd_x30_0 10 (x := (21, .aload_n 0, 1)) rfl
theorem dX3_init_22 : decode cX3_init 22 = .ok (.ldc 16, 2) := decs_at bnd_x30_0 11 (x := (22, .ldc 16, 2)) rfl
theorem dX3_init_24 : decode cX3_init 24 = .ok (.newarray .long, 2) := decs_at bnd_x30_0 12 (x := (24, .newarray .long, 2)) rfl
theorem dX3_init_26 : decode cX3_init 26 = .ok (.putfield 17, 3) := decs_at bnd_x30_0 13 (x := (26, .putfield 17, 3)) rfl
theorem dX3_init_29 : decode cX3_init 29 = .ok (.aload_n 0, 1) := decs_at bnd_x30_0 14 (x := (29, .aload_n 0, 1)) rfl
theorem dX3_init_30 : decode cX3_init 30 = .ok (.sipush 6400, 3) := decs_at bnd_x30_0 15 (x := (30, .sipush 6400, 3)) rfl
theorem dX3_init_33 : decode cX3_init 33 = .ok (.newarray .int, 2) := decs_at bnd_x30_0 16 (x := (33, .newarray .int, 2)) rfl
theorem dX3_init_35 : decode cX3_init 35 = .ok (.putfield 21, 3) := decs_at bnd_x30_0 17 (x := (35, .putfield 21, 3)) rfl
theorem dX3_init_38 : decode cX3_init 38 = .ok (.aload_n 0, 1) := decs_at bnd_x30_0 18 (x := (38, .aload_n 0, 1)) rfl
theorem dX3_init_39 : decode cX3_init 39 = .ok (.ldc 24, 2) := decs_at bnd_x30_0 19 (x := (39, .ldc 24, 2)) rfl
theorem dX3_init_41 : decode cX3_init 41 = .ok (.newarray .int, 2) := decs_at bnd_x30_0 20 (x := (41, .newarray .int, 2)) rfl
theorem dX3_init_43 : decode cX3_init 43 = .ok (.putfield 25, 3) := decs_at bnd_x30_0 21 (x := (43, .putfield 25, 3)) rfl
theorem dX3_init_46 : decode cX3_init 46 = .ok (.aload_n 0, 1) := decs_at bnd_x30_0 22 (x := (46, .aload_n 0, 1)) rfl
theorem dX3_init_47 : decode cX3_init 47 = .ok (.sipush 6400, 3) := decs_at bnd_x30_0 23 (x := (47, .sipush 6400, 3)) rfl
theorem bnd_x30_1 : decs cX3_init [(50, .newarray .boolean, 2), (52, .putfield 28, 3), (55, .aload_n 0, 1), (56, .sipush 6400, 3), (59, .newarray .int, 2), (61, .putfield 32, 3), (64, .aload_n 0, 1), (65, .sipush 300, 3), (68, .newarray .int, 2), (70, .putfield 35, 3), (73, .aload_n 0, 1), (74, .sipush 300, 3), (77, .newarray .int, 2), (79, .putfield 38, 3), (82, .aload_n 0, 1), (83, .sipush 300, 3), (86, .newarray .long, 2), (88, .putfield 41, 3), (91, .aload_n 0, 1), (92, .bipush 25, 2), (94, .newarray .int, 2), (96, .putfield 44, 3), (99, .aload_n 0, 1), (100, .sipush 300, 3)] = true := by decide +kernel
theorem dX3_init_50 : decode cX3_init 50 = .ok (.newarray .boolean, 2) := decs_at bnd_x30_1 0 (x := (50, .newarray .boolean, 2)) rfl
theorem dX3_init_52 : decode cX3_init 52 = .ok (.putfield 28, 3) := decs_at bnd_x30_1 1 (x := (52, .putfield 28, 3)) rfl
theorem dX3_init_55 : decode cX3_init 55 = .ok (.aload_n 0, 1) := decs_at bnd_x30_1 2 (x := (55, .aload_n 0, 1)) rfl
theorem dX3_init_56 : decode cX3_init 56 = .ok (.sipush 6400, 3) := decs_at bnd_x30_1 3 (x := (56, .sipush 6400, 3)) rfl
theorem dX3_init_59 : decode cX3_init 59 = .ok (.newarray .int, 2) := decs_at bnd_x30_1 4 (x := (59, .newarray .int, 2)) rfl
theorem dX3_init_61 : decode cX3_init 61 = .ok (.putfield 32, 3) := decs_at bnd_x30_1 5 (x := (61, .putfield 32, 3)) rfl
theorem dX3_init_64 : decode cX3_init 64 = .ok (.aload_n 0, 1) := decs_at bnd_x30_1 6 (x := (64, .aload_n 0, 1)) rfl
theorem dX3_init_65 : decode cX3_init 65 = .ok (.sipush 300, 3) := decs_at bnd_x30_1 7 (x := (65, .sipush 300, 3)) rfl
theorem dX3_init_68 : decode cX3_init 68 = .ok (.newarray .int, 2) := decs_at bnd_x30_1 8 (x := (68, .newarray .int, 2)) rfl
theorem dX3_init_70 : decode cX3_init 70 = .ok (.putfield 35, 3) := decs_at bnd_x30_1 9 (x := (70, .putfield 35, 3)) rfl
theorem dX3_init_73 : decode cX3_init 73 = .ok (.aload_n 0, 1) := decs_at bnd_x30_1 10 (x := (73, .aload_n 0, 1)) rfl
theorem dX3_init_74 : decode cX3_init 74 = .ok (.sipush 300, 3) := decs_at bnd_x30_1 11 (x := (74, .sipush 300, 3)) rfl
theorem dX3_init_77 : decode cX3_init 77 = .ok (.newarray .int, 2) := decs_at bnd_x30_1 12 (x := (77, .newarray .int, 2)) rfl
theorem dX3_init_79 : decode cX3_init 79 = .ok (.putfield 38, 3) := decs_at bnd_x30_1 13 (x := (79, .putfield 38, 3)) rfl
theorem dX3_init_82 : decode cX3_init 82 = .ok (.aload_n 0, 1) := decs_at bnd_x30_1 14 (x := (82, .aload_n 0, 1)) rfl
theorem dX3_init_83 : decode cX3_init 83 = .ok (.sipush 300, 3) := decs_at bnd_x30_1 15 (x := (83, .sipush 300, 3)) rfl
theorem dX3_init_86 : decode cX3_init 86 = .ok (.newarray .long, 2) := decs_at bnd_x30_1 16 (x := (86, .newarray .long, 2)) rfl
theorem dX3_init_88 : decode cX3_init 88 = .ok (.putfield 41, 3) := decs_at bnd_x30_1 17 (x := (88, .putfield 41, 3)) rfl
theorem dX3_init_91 : decode cX3_init 91 = .ok (.aload_n 0, 1) := decs_at bnd_x30_1 18 (x := (91, .aload_n 0, 1)) rfl
theorem dX3_init_92 : decode cX3_init 92 = .ok (.bipush 25, 2) := decs_at bnd_x30_1 19 (x := (92, .bipush 25, 2)) rfl
theorem dX3_init_94 : decode cX3_init 94 = .ok (.newarray .int, 2) := decs_at bnd_x30_1 20 (x := (94, .newarray .int, 2)) rfl
theorem dX3_init_96 : decode cX3_init 96 = .ok (.putfield 44, 3) := decs_at bnd_x30_1 21 (x := (96, .putfield 44, 3)) rfl
theorem dX3_init_99 : decode cX3_init 99 = .ok (.aload_n 0, 1) := decs_at bnd_x30_1 22 (x := (99, .aload_n 0, 1)) rfl
theorem dX3_init_100 : decode cX3_init 100 = .ok (.sipush 300, 3) := decs_at bnd_x30_1 23 (x := (100, .sipush 300, 3)) rfl
theorem bnd_x30_2 : decs cX3_init [(103, .newarray .int, 2), (105, .putfield 47, 3), (108, .aload_n 0, 1), (109, .sipush 300, 3), (112, .newarray .int, 2), (114, .putfield 50, 3), (117, .aload_n 0, 1), (118, .sipush 300, 3), (121, .newarray .long, 2), (123, .putfield 53, 3), (126, .aload_n 0, 1), (127, .bipush 24, 2), (129, .newarray .int, 2), (131, .putfield 56, 3), (134, .aload_n 0, 1), (135, .sipush 300, 3), (138, .newarray .int, 2), (140, .putfield 59, 3), (143, .aload_n 0, 1), (144, .sipush 300, 3), (147, .newarray .int, 2), (149, .putfield 62, 3), (152, .aload_n 0, 1), (153, .sipush 300, 3)] = true := by decide +kernel
theorem dX3_init_103 : decode cX3_init 103 = .ok (.newarray .int, 2) := decs_at bnd_x30_2 0 (x := (103, .newarray .int, 2)) rfl
theorem dX3_init_105 : decode cX3_init 105 = .ok (.putfield 47, 3) := decs_at bnd_x30_2 1 (x := (105, .putfield 47, 3)) rfl
theorem dX3_init_108 : decode cX3_init 108 = .ok (.aload_n 0, 1) := decs_at bnd_x30_2 2 (x := (108, .aload_n 0, 1)) rfl
theorem dX3_init_109 : decode cX3_init 109 = .ok (.sipush 300, 3) := decs_at bnd_x30_2 3 (x := (109, .sipush 300, 3)) rfl
theorem dX3_init_112 : decode cX3_init 112 = .ok (.newarray .int, 2) := decs_at bnd_x30_2 4 (x := (112, .newarray .int, 2)) rfl
theorem dX3_init_114 : decode cX3_init 114 = .ok (.putfield 50, 3) := decs_at bnd_x30_2 5 (x := (114, .putfield 50, 3)) rfl
theorem dX3_init_117 : decode cX3_init 117 = .ok (.aload_n 0, 1) := decs_at bnd_x30_2 6 (x := (117, .aload_n 0, 1)) rfl
theorem dX3_init_118 : decode cX3_init 118 = .ok (.sipush 300, 3) := decs_at bnd_x30_2 7 (x := (118, .sipush 300, 3)) rfl
theorem dX3_init_121 : decode cX3_init 121 = .ok (.newarray .long, 2) := decs_at bnd_x30_2 8 (x := (121, .newarray .long, 2)) rfl
theorem dX3_init_123 : decode cX3_init 123 = .ok (.putfield 53, 3) := decs_at bnd_x30_2 9 (x := (123, .putfield 53, 3)) rfl
theorem dX3_init_126 : decode cX3_init 126 = .ok (.aload_n 0, 1) := decs_at bnd_x30_2 10 (x := (126, .aload_n 0, 1)) rfl
theorem dX3_init_127 : decode cX3_init 127 = .ok (.bipush 24, 2) := decs_at bnd_x30_2 11 (x := (127, .bipush 24, 2)) rfl
theorem dX3_init_129 : decode cX3_init 129 = .ok (.newarray .int, 2) := decs_at bnd_x30_2 12 (x := (129, .newarray .int, 2)) rfl
theorem dX3_init_131 : decode cX3_init 131 = .ok (.putfield 56, 3) := decs_at bnd_x30_2 13 (x := (131, .putfield 56, 3)) rfl
theorem dX3_init_134 : decode cX3_init 134 = .ok (.aload_n 0, 1) := decs_at bnd_x30_2 14 (x := (134, .aload_n 0, 1)) rfl
theorem dX3_init_135 : decode cX3_init 135 = .ok (.sipush 300, 3) := decs_at bnd_x30_2 15 (x := (135, .sipush 300, 3)) rfl
theorem dX3_init_138 : decode cX3_init 138 = .ok (.newarray .int, 2) := decs_at bnd_x30_2 16 (x := (138, .newarray .int, 2)) rfl
theorem dX3_init_140 : decode cX3_init 140 = .ok (.putfield 59, 3) := decs_at bnd_x30_2 17 (x := (140, .putfield 59, 3)) rfl
theorem dX3_init_143 : decode cX3_init 143 = .ok (.aload_n 0, 1) := decs_at bnd_x30_2 18 (x := (143, .aload_n 0, 1)) rfl
theorem dX3_init_144 : decode cX3_init 144 = .ok (.sipush 300, 3) := decs_at bnd_x30_2 19 (x := (144, .sipush 300, 3)) rfl
theorem dX3_init_147 : decode cX3_init 147 = .ok (.newarray .int, 2) := decs_at bnd_x30_2 20 (x := (147, .newarray .int, 2)) rfl
theorem dX3_init_149 : decode cX3_init 149 = .ok (.putfield 62, 3) := decs_at bnd_x30_2 21 (x := (149, .putfield 62, 3)) rfl
theorem dX3_init_152 : decode cX3_init 152 = .ok (.aload_n 0, 1) := decs_at bnd_x30_2 22 (x := (152, .aload_n 0, 1)) rfl
theorem dX3_init_153 : decode cX3_init 153 = .ok (.sipush 300, 3) := decs_at bnd_x30_2 23 (x := (153, .sipush 300, 3)) rfl
theorem bnd_x30_3 : decs cX3_init [(156, .newarray .long, 2), (158, .putfield 65, 3), (161, .iconst 0, 1), (162, .istore_n 1, 1), (163, .iload_n 1, 1), (164, .bipush 12, 2), (166, .if_icmp .ge 16, 3), (169, .aload_n 0, 1), (170, .getfield 7, 3), (173, .iload_n 1, 1), (174, .iconst (-1), 1), (175, .iastore, 1), (176, .iinc 1 1, 3), (179, .goto (-16), 3), (182, .return_, 1)] = true := by decide +kernel
theorem dX3_init_156 : decode cX3_init 156 = .ok (.newarray .long, 2) := decs_at bnd_x30_3 0 (x := (156, .newarray .long, 2)) rfl
theorem dX3_init_158 : decode cX3_init 158 = .ok (.putfield 65, 3) := decs_at bnd_x30_3 1 (x := (158, .putfield 65, 3)) rfl
theorem dX3_init_161 : decode cX3_init 161 = .ok (.iconst 0, 1) := decs_at bnd_x30_3 2 (x := (161, .iconst 0, 1)) rfl
theorem dX3_init_162 : decode cX3_init 162 = .ok (.istore_n 1, 1) := decs_at bnd_x30_3 3 (x := (162, .istore_n 1, 1)) rfl
theorem dX3_init_163 : decode cX3_init 163 = .ok (.iload_n 1, 1) := decs_at bnd_x30_3 4 (x := (163, .iload_n 1, 1)) rfl
theorem dX3_init_164 : decode cX3_init 164 = .ok (.bipush 12, 2) := decs_at bnd_x30_3 5 (x := (164, .bipush 12, 2)) rfl
theorem dX3_init_166 : decode cX3_init 166 = .ok (.if_icmp .ge 16, 3) := decs_at bnd_x30_3 6 (x := (166, .if_icmp .ge 16, 3)) rfl
theorem dX3_init_169 : decode cX3_init 169 = .ok (.aload_n 0, 1) := decs_at bnd_x30_3 7 (x := (169, .aload_n 0, 1)) rfl
theorem dX3_init_170 : decode cX3_init 170 = .ok (.getfield 7, 3) := decs_at bnd_x30_3 8 (x := (170, .getfield 7, 3)) rfl
theorem dX3_init_173 : decode cX3_init 173 = .ok (.iload_n 1, 1) := decs_at bnd_x30_3 9 (x := (173, .iload_n 1, 1)) rfl
theorem dX3_init_174 : decode cX3_init 174 = .ok (.iconst (-1), 1) := decs_at bnd_x30_3 10 (x := (174, .iconst (-1), 1)) rfl
theorem dX3_init_175 : decode cX3_init 175 = .ok (.iastore, 1) := decs_at bnd_x30_3 11 (x := (175, .iastore, 1)) rfl
theorem dX3_init_176 : decode cX3_init 176 = .ok (.iinc 1 1, 3) := decs_at bnd_x30_3 12 (x := (176, .iinc 1 1, 3)) rfl
theorem dX3_init_179 : decode cX3_init 179 = .ok (.goto (-16), 3) := decs_at bnd_x30_3 13 (x := (179, .goto (-16), 3)) rfl
theorem dX3_init_182 : decode cX3_init 182 = .ok (.return_, 1) := decs_at bnd_x30_3 14 (x := (182, .return_, 1)) rfl
theorem bnd_x30_4 : decs cX3_in [(0, .lload_n 0, 1), (1, .lload_n 2, 1), (2, .lcmp, 1), (3, .ifCond .lt 14, 3), (6, .lload_n 0, 1), (7, .lload 4, 2), (9, .lcmp, 1), (10, .ifCond .gt 7, 3), (13, .iconst 1, 1), (14, .goto 4, 3), (17, .iconst 0, 1), (18, .ireturn, 1)] = true := by decide +kernel
theorem dX3_in_0 : decode cX3_in 0 = .ok (.lload_n 0, 1) := decs_at bnd_x30_4 0 (x := (0, .lload_n 0, 1)) rfl
theorem dX3_in_1 : decode cX3_in 1 = .ok (.lload_n 2, 1) := decs_at bnd_x30_4 1 (x := (1, .lload_n 2, 1)) rfl
theorem dX3_in_2 : decode cX3_in 2 = .ok (.lcmp, 1) := decs_at bnd_x30_4 2 (x := (2, .lcmp, 1)) rfl
theorem dX3_in_3 : decode cX3_in 3 = .ok (.ifCond .lt 14, 3) := decs_at bnd_x30_4 3 (x := (3, .ifCond .lt 14, 3)) rfl
theorem dX3_in_6 : decode cX3_in 6 = .ok (.lload_n 0, 1) := decs_at bnd_x30_4 4 (x := (6, .lload_n 0, 1)) rfl
theorem dX3_in_7 : decode cX3_in 7 = .ok (.lload 4, 2) := decs_at bnd_x30_4 5 (x := (7, .lload 4, 2)) rfl
theorem dX3_in_9 : decode cX3_in 9 = .ok (.lcmp, 1) := decs_at bnd_x30_4 6 (x := (9, .lcmp, 1)) rfl
theorem dX3_in_10 : decode cX3_in 10 = .ok (.ifCond .gt 7, 3) := decs_at bnd_x30_4 7 (x := (10, .ifCond .gt 7, 3)) rfl
theorem dX3_in_13 : decode cX3_in 13 = .ok (.iconst 1, 1) := decs_at bnd_x30_4 8 (x := (13, .iconst 1, 1)) rfl
theorem dX3_in_14 : decode cX3_in 14 = .ok (.goto 4, 3) := decs_at bnd_x30_4 9 (x := (14, .goto 4, 3)) rfl
theorem dX3_in_17 : decode cX3_in 17 = .ok (.iconst 0, 1) := decs_at bnd_x30_4 10 (x := (17, .iconst 0, 1)) rfl
theorem dX3_in_18 : decode cX3_in 18 = .ok (.ireturn, 1) := decs_at bnd_x30_4 11 (x := (18, .ireturn, 1)) rfl
set_option maxRecDepth 20000 in
theorem ggX3_isSlot_X3_in : GoodIn wsX3_isSlot wsX3_in := goodIn_r _ [5] rfl (by decide +kernel)
set_option maxRecDepth 20000 in
theorem gX3_isSlot_X3_in : GoodIn wsX3_isSlot (va_wsS RX3 70 yX3_in wsX3_in) := goodIn_app (goodIn_r _ [2, 3, 4] rfl (by decide +kernel)) ggX3_isSlot_X3_in
theorem bnd_x30_5 : decs cX3_isSlot [(0, .iload_n 0, 1), (1, .i2l, 1), (2, .lconst 0, 1), (3, .ldc2_w 68, 3), (6, .invokestatic 70, 3), (9, .ireturn, 1)] = true := by decide +kernel
theorem dX3_isSlot_0 : decode cX3_isSlot 0 = .ok (.iload_n 0, 1) := decs_at bnd_x30_5 0 (x := (0, .iload_n 0, 1)) rfl
theorem dX3_isSlot_1 : decode cX3_isSlot 1 = .ok (.i2l, 1) := decs_at bnd_x30_5 1 (x := (1, .i2l, 1)) rfl
theorem dX3_isSlot_2 : decode cX3_isSlot 2 = .ok (.lconst 0, 1) := decs_at bnd_x30_5 2 (x := (2, .lconst 0, 1)) rfl
theorem dX3_isSlot_3 : decode cX3_isSlot 3 = .ok (.ldc2_w 68, 3) := decs_at bnd_x30_5 3 (x := (3, .ldc2_w 68, 3)) rfl
theorem dX3_isSlot_6 : decode cX3_isSlot 6 = .ok (.invokestatic 70, 3) := decs_at bnd_x30_5 4 (x := (6, .invokestatic 70, 3)) rfl
theorem dX3_isSlot_9 : decode cX3_isSlot 9 = .ok (.ireturn, 1) := decs_at bnd_x30_5 5 (x := (9, .ireturn, 1)) rfl
theorem bnd_x30_6 : decs cX3_isLink [(0, .iload_n 0, 1), (1, .bipush 8, 2), (3, .if_icmp .eq 15, 3), (6, .iload_n 0, 1), (7, .bipush 11, 2), (9, .if_icmp .eq 9, 3), (12, .iload_n 0, 1), (13, .bipush 15, 2), (15, .if_icmp .ne 7, 3), (18, .iconst 1, 1), (19, .goto 4, 3), (22, .iconst 0, 1), (23, .ireturn, 1)] = true := by decide +kernel
theorem dX3_isLink_0 : decode cX3_isLink 0 = .ok (.iload_n 0, 1) := decs_at bnd_x30_6 0 (x := (0, .iload_n 0, 1)) rfl
theorem dX3_isLink_1 : decode cX3_isLink 1 = .ok (.bipush 8, 2) := decs_at bnd_x30_6 1 (x := (1, .bipush 8, 2)) rfl
theorem dX3_isLink_3 : decode cX3_isLink 3 = .ok (.if_icmp .eq 15, 3) := decs_at bnd_x30_6 2 (x := (3, .if_icmp .eq 15, 3)) rfl
theorem dX3_isLink_6 : decode cX3_isLink 6 = .ok (.iload_n 0, 1) := decs_at bnd_x30_6 3 (x := (6, .iload_n 0, 1)) rfl
theorem dX3_isLink_7 : decode cX3_isLink 7 = .ok (.bipush 11, 2) := decs_at bnd_x30_6 4 (x := (7, .bipush 11, 2)) rfl
theorem dX3_isLink_9 : decode cX3_isLink 9 = .ok (.if_icmp .eq 9, 3) := decs_at bnd_x30_6 5 (x := (9, .if_icmp .eq 9, 3)) rfl
theorem dX3_isLink_12 : decode cX3_isLink 12 = .ok (.iload_n 0, 1) := decs_at bnd_x30_6 6 (x := (12, .iload_n 0, 1)) rfl
theorem dX3_isLink_13 : decode cX3_isLink 13 = .ok (.bipush 15, 2) := decs_at bnd_x30_6 7 (x := (13, .bipush 15, 2)) rfl
theorem dX3_isLink_15 : decode cX3_isLink 15 = .ok (.if_icmp .ne 7, 3) := decs_at bnd_x30_6 8 (x := (15, .if_icmp .ne 7, 3)) rfl
theorem dX3_isLink_18 : decode cX3_isLink 18 = .ok (.iconst 1, 1) := decs_at bnd_x30_6 9 (x := (18, .iconst 1, 1)) rfl
theorem dX3_isLink_19 : decode cX3_isLink 19 = .ok (.goto 4, 3) := decs_at bnd_x30_6 10 (x := (19, .goto 4, 3)) rfl
theorem dX3_isLink_22 : decode cX3_isLink 22 = .ok (.iconst 0, 1) := decs_at bnd_x30_6 11 (x := (22, .iconst 0, 1)) rfl
theorem dX3_isLink_23 : decode cX3_isLink 23 = .ok (.ireturn, 1) := decs_at bnd_x30_6 12 (x := (23, .ireturn, 1)) rfl
theorem bnd_x30_7 : decs cX3_has [(0, .iload_n 0, 1), (1, .ifCond .ne 17, 3), (4, .iload_n 1, 1), (5, .bipush 10, 2), (7, .if_icmp .ge 7, 3), (10, .iconst 1, 1), (11, .goto 81, 3), (14, .iconst 0, 1), (15, .goto 77, 3), (18, .iload_n 0, 1), (19, .iconst 1, 1), (20, .if_icmp .ne 17, 3), (23, .iload_n 1, 1), (24, .bipush 12, 2), (26, .if_icmp .ge 7, 3), (29, .iconst 1, 1), (30, .goto 62, 3), (33, .iconst 0, 1), (34, .goto 58, 3), (37, .iload_n 0, 1), (38, .iconst 2, 1), (39, .if_icmp .ne 17, 3), (42, .iload_n 1, 1), (43, .bipush 14, 2)] = true := by decide +kernel
theorem dX3_has_0 : decode cX3_has 0 = .ok (.iload_n 0, 1) := decs_at bnd_x30_7 0 (x := (0, .iload_n 0, 1)) rfl
theorem dX3_has_1 : decode cX3_has 1 = .ok (.ifCond .ne 17, 3) := decs_at bnd_x30_7 1 (x := (1, .ifCond .ne 17, 3)) rfl
theorem dX3_has_4 : decode cX3_has 4 = .ok (.iload_n 1, 1) := decs_at bnd_x30_7 2 (x := (4, .iload_n 1, 1)) rfl
theorem dX3_has_5 : decode cX3_has 5 = .ok (.bipush 10, 2) := decs_at bnd_x30_7 3 (x := (5, .bipush 10, 2)) rfl
theorem dX3_has_7 : decode cX3_has 7 = .ok (.if_icmp .ge 7, 3) := decs_at bnd_x30_7 4 (x := (7, .if_icmp .ge 7, 3)) rfl
theorem dX3_has_10 : decode cX3_has 10 = .ok (.iconst 1, 1) := decs_at bnd_x30_7 5 (x := (10, .iconst 1, 1)) rfl
theorem dX3_has_11 : decode cX3_has 11 = .ok (.goto 81, 3) := decs_at bnd_x30_7 6 (x := (11, .goto 81, 3)) rfl
theorem dX3_has_14 : decode cX3_has 14 = .ok (.iconst 0, 1) := decs_at bnd_x30_7 7 (x := (14, .iconst 0, 1)) rfl
theorem dX3_has_15 : decode cX3_has 15 = .ok (.goto 77, 3) := decs_at bnd_x30_7 8 (x := (15, .goto 77, 3)) rfl
theorem dX3_has_18 : decode cX3_has 18 = .ok (.iload_n 0, 1) := decs_at bnd_x30_7 9 (x := (18, .iload_n 0, 1)) rfl
theorem dX3_has_19 : decode cX3_has 19 = .ok (.iconst 1, 1) := decs_at bnd_x30_7 10 (x := (19, .iconst 1, 1)) rfl
theorem dX3_has_20 : decode cX3_has 20 = .ok (.if_icmp .ne 17, 3) := decs_at bnd_x30_7 11 (x := (20, .if_icmp .ne 17, 3)) rfl
theorem dX3_has_23 : decode cX3_has 23 = .ok (.iload_n 1, 1) := decs_at bnd_x30_7 12 (x := (23, .iload_n 1, 1)) rfl
theorem dX3_has_24 : decode cX3_has 24 = .ok (.bipush 12, 2) := decs_at bnd_x30_7 13 (x := (24, .bipush 12, 2)) rfl
theorem dX3_has_26 : decode cX3_has 26 = .ok (.if_icmp .ge 7, 3) := decs_at bnd_x30_7 14 (x := (26, .if_icmp .ge 7, 3)) rfl
theorem dX3_has_29 : decode cX3_has 29 = .ok (.iconst 1, 1) := decs_at bnd_x30_7 15 (x := (29, .iconst 1, 1)) rfl
theorem dX3_has_30 : decode cX3_has 30 = .ok (.goto 62, 3) := decs_at bnd_x30_7 16 (x := (30, .goto 62, 3)) rfl
theorem dX3_has_33 : decode cX3_has 33 = .ok (.iconst 0, 1) := decs_at bnd_x30_7 17 (x := (33, .iconst 0, 1)) rfl
theorem dX3_has_34 : decode cX3_has 34 = .ok (.goto 58, 3) := decs_at bnd_x30_7 18 (x := (34, .goto 58, 3)) rfl
theorem dX3_has_37 : decode cX3_has 37 = .ok (.iload_n 0, 1) := decs_at bnd_x30_7 19 (x := (37, .iload_n 0, 1)) rfl
theorem dX3_has_38 : decode cX3_has 38 = .ok (.iconst 2, 1) := decs_at bnd_x30_7 20 (x := (38, .iconst 2, 1)) rfl
theorem dX3_has_39 : decode cX3_has 39 = .ok (.if_icmp .ne 17, 3) := decs_at bnd_x30_7 21 (x := (39, .if_icmp .ne 17, 3)) rfl
theorem dX3_has_42 : decode cX3_has 42 = .ok (.iload_n 1, 1) := decs_at bnd_x30_7 22 (x := (42, .iload_n 1, 1)) rfl
theorem dX3_has_43 : decode cX3_has 43 = .ok (.bipush 14, 2) := decs_at bnd_x30_7 23 (x := (43, .bipush 14, 2)) rfl
theorem bnd_x30_8 : decs cX3_has [(45, .if_icmp .ge 7, 3), (48, .iconst 1, 1), (49, .goto 43, 3), (52, .iconst 0, 1), (53, .goto 39, 3), (56, .iload_n 0, 1), (57, .iconst 3, 1), (58, .if_icmp .ne 23, 3), (61, .iload_n 1, 1), (62, .bipush 14, 2), (64, .if_icmp .eq 9, 3), (67, .iload_n 1, 1), (68, .bipush 15, 2), (70, .if_icmp .ne 7, 3), (73, .iconst 1, 1), (74, .goto 18, 3), (77, .iconst 0, 1), (78, .goto 14, 3), (81, .iload_n 1, 1), (82, .bipush 16, 2), (84, .if_icmp .ne 7, 3), (87, .iconst 1, 1), (88, .goto 4, 3), (91, .iconst 0, 1)] = true := by decide +kernel
theorem dX3_has_45 : decode cX3_has 45 = .ok (.if_icmp .ge 7, 3) := decs_at bnd_x30_8 0 (x := (45, .if_icmp .ge 7, 3)) rfl
theorem dX3_has_48 : decode cX3_has 48 = .ok (.iconst 1, 1) := decs_at bnd_x30_8 1 (x := (48, .iconst 1, 1)) rfl
theorem dX3_has_49 : decode cX3_has 49 = .ok (.goto 43, 3) := decs_at bnd_x30_8 2 (x := (49, .goto 43, 3)) rfl
theorem dX3_has_52 : decode cX3_has 52 = .ok (.iconst 0, 1) := decs_at bnd_x30_8 3 (x := (52, .iconst 0, 1)) rfl
theorem dX3_has_53 : decode cX3_has 53 = .ok (.goto 39, 3) := decs_at bnd_x30_8 4 (x := (53, .goto 39, 3)) rfl
theorem dX3_has_56 : decode cX3_has 56 = .ok (.iload_n 0, 1) := decs_at bnd_x30_8 5 (x := (56, .iload_n 0, 1)) rfl
theorem dX3_has_57 : decode cX3_has 57 = .ok (.iconst 3, 1) := decs_at bnd_x30_8 6 (x := (57, .iconst 3, 1)) rfl
theorem dX3_has_58 : decode cX3_has 58 = .ok (.if_icmp .ne 23, 3) := decs_at bnd_x30_8 7 (x := (58, .if_icmp .ne 23, 3)) rfl
theorem dX3_has_61 : decode cX3_has 61 = .ok (.iload_n 1, 1) := decs_at bnd_x30_8 8 (x := (61, .iload_n 1, 1)) rfl
theorem dX3_has_62 : decode cX3_has 62 = .ok (.bipush 14, 2) := decs_at bnd_x30_8 9 (x := (62, .bipush 14, 2)) rfl
theorem dX3_has_64 : decode cX3_has 64 = .ok (.if_icmp .eq 9, 3) := decs_at bnd_x30_8 10 (x := (64, .if_icmp .eq 9, 3)) rfl
theorem dX3_has_67 : decode cX3_has 67 = .ok (.iload_n 1, 1) := decs_at bnd_x30_8 11 (x := (67, .iload_n 1, 1)) rfl
theorem dX3_has_68 : decode cX3_has 68 = .ok (.bipush 15, 2) := decs_at bnd_x30_8 12 (x := (68, .bipush 15, 2)) rfl
theorem dX3_has_70 : decode cX3_has 70 = .ok (.if_icmp .ne 7, 3) := decs_at bnd_x30_8 13 (x := (70, .if_icmp .ne 7, 3)) rfl
theorem dX3_has_73 : decode cX3_has 73 = .ok (.iconst 1, 1) := decs_at bnd_x30_8 14 (x := (73, .iconst 1, 1)) rfl
theorem dX3_has_74 : decode cX3_has 74 = .ok (.goto 18, 3) := decs_at bnd_x30_8 15 (x := (74, .goto 18, 3)) rfl
theorem dX3_has_77 : decode cX3_has 77 = .ok (.iconst 0, 1) := decs_at bnd_x30_8 16 (x := (77, .iconst 0, 1)) rfl
theorem dX3_has_78 : decode cX3_has 78 = .ok (.goto 14, 3) := decs_at bnd_x30_8 17 (x := (78, .goto 14, 3)) rfl
theorem dX3_has_81 : decode cX3_has 81 = .ok (.iload_n 1, 1) := decs_at bnd_x30_8 18 (x := (81, .iload_n 1, 1)) rfl
theorem dX3_has_82 : decode cX3_has 82 = .ok (.bipush 16, 2) := decs_at bnd_x30_8 19 (x := (82, .bipush 16, 2)) rfl
theorem dX3_has_84 : decode cX3_has 84 = .ok (.if_icmp .ne 7, 3) := decs_at bnd_x30_8 20 (x := (84, .if_icmp .ne 7, 3)) rfl
theorem dX3_has_87 : decode cX3_has 87 = .ok (.iconst 1, 1) := decs_at bnd_x30_8 21 (x := (87, .iconst 1, 1)) rfl
theorem dX3_has_88 : decode cX3_has 88 = .ok (.goto 4, 3) := decs_at bnd_x30_8 22 (x := (88, .goto 4, 3)) rfl
theorem dX3_has_91 : decode cX3_has 91 = .ok (.iconst 0, 1) := decs_at bnd_x30_8 23 (x := (91, .iconst 0, 1)) rfl
theorem dX3_has_92 : decode cX3_has 92 = .ok (.ireturn, 1) := by decide +kernel
theorem bnd_x30_9 : decs cX3_isBelow [(0, .iload_n 1, 1), (1, .iconst 5, 1), (2, .if_icmp .ne 16, 3), (5, .iload_n 0, 1), (6, .iconst 4, 1), (7, .if_icmp .ge 7, 3), (10, .iconst 1, 1), (11, .goto 27, 3), (14, .iconst 0, 1), (15, .goto 23, 3), (18, .iload_n 0, 1), (19, .iload_n 1, 1), (20, .if_icmp .eq 13, 3), (23, .iload_n 1, 1), (24, .iload_n 0, 1), (25, .if_icmp .ge 12, 3), (28, .iload_n 0, 1), (29, .iconst 3, 1), (30, .if_icmp .ge 7, 3), (33, .iconst 1, 1), (34, .goto 4, 3), (37, .iconst 0, 1), (38, .ireturn, 1)] = true := by decide +kernel
theorem dX3_isBelow_0 : decode cX3_isBelow 0 = .ok (.iload_n 1, 1) := decs_at bnd_x30_9 0 (x := (0, .iload_n 1, 1)) rfl
theorem dX3_isBelow_1 : decode cX3_isBelow 1 = .ok (.iconst 5, 1) := decs_at bnd_x30_9 1 (x := (1, .iconst 5, 1)) rfl
theorem dX3_isBelow_2 : decode cX3_isBelow 2 = .ok (.if_icmp .ne 16, 3) := decs_at bnd_x30_9 2 (x := (2, .if_icmp .ne 16, 3)) rfl
theorem dX3_isBelow_5 : decode cX3_isBelow 5 = .ok (.iload_n 0, 1) := decs_at bnd_x30_9 3 (x := (5, .iload_n 0, 1)) rfl
theorem dX3_isBelow_6 : decode cX3_isBelow 6 = .ok (.iconst 4, 1) := decs_at bnd_x30_9 4 (x := (6, .iconst 4, 1)) rfl
theorem dX3_isBelow_7 : decode cX3_isBelow 7 = .ok (.if_icmp .ge 7, 3) := decs_at bnd_x30_9 5 (x := (7, .if_icmp .ge 7, 3)) rfl
theorem dX3_isBelow_10 : decode cX3_isBelow 10 = .ok (.iconst 1, 1) := decs_at bnd_x30_9 6 (x := (10, .iconst 1, 1)) rfl
theorem dX3_isBelow_11 : decode cX3_isBelow 11 = .ok (.goto 27, 3) := decs_at bnd_x30_9 7 (x := (11, .goto 27, 3)) rfl
theorem dX3_isBelow_14 : decode cX3_isBelow 14 = .ok (.iconst 0, 1) := decs_at bnd_x30_9 8 (x := (14, .iconst 0, 1)) rfl
theorem dX3_isBelow_15 : decode cX3_isBelow 15 = .ok (.goto 23, 3) := decs_at bnd_x30_9 9 (x := (15, .goto 23, 3)) rfl
theorem dX3_isBelow_18 : decode cX3_isBelow 18 = .ok (.iload_n 0, 1) := decs_at bnd_x30_9 10 (x := (18, .iload_n 0, 1)) rfl
theorem dX3_isBelow_19 : decode cX3_isBelow 19 = .ok (.iload_n 1, 1) := decs_at bnd_x30_9 11 (x := (19, .iload_n 1, 1)) rfl
theorem dX3_isBelow_20 : decode cX3_isBelow 20 = .ok (.if_icmp .eq 13, 3) := decs_at bnd_x30_9 12 (x := (20, .if_icmp .eq 13, 3)) rfl
theorem dX3_isBelow_23 : decode cX3_isBelow 23 = .ok (.iload_n 1, 1) := decs_at bnd_x30_9 13 (x := (23, .iload_n 1, 1)) rfl
theorem dX3_isBelow_24 : decode cX3_isBelow 24 = .ok (.iload_n 0, 1) := decs_at bnd_x30_9 14 (x := (24, .iload_n 0, 1)) rfl
theorem dX3_isBelow_25 : decode cX3_isBelow 25 = .ok (.if_icmp .ge 12, 3) := decs_at bnd_x30_9 15 (x := (25, .if_icmp .ge 12, 3)) rfl
theorem dX3_isBelow_28 : decode cX3_isBelow 28 = .ok (.iload_n 0, 1) := decs_at bnd_x30_9 16 (x := (28, .iload_n 0, 1)) rfl
theorem dX3_isBelow_29 : decode cX3_isBelow 29 = .ok (.iconst 3, 1) := decs_at bnd_x30_9 17 (x := (29, .iconst 3, 1)) rfl
theorem dX3_isBelow_30 : decode cX3_isBelow 30 = .ok (.if_icmp .ge 7, 3) := decs_at bnd_x30_9 18 (x := (30, .if_icmp .ge 7, 3)) rfl
theorem dX3_isBelow_33 : decode cX3_isBelow 33 = .ok (.iconst 1, 1) := decs_at bnd_x30_9 19 (x := (33, .iconst 1, 1)) rfl
theorem dX3_isBelow_34 : decode cX3_isBelow 34 = .ok (.goto 4, 3) := decs_at bnd_x30_9 20 (x := (34, .goto 4, 3)) rfl
theorem dX3_isBelow_37 : decode cX3_isBelow 37 = .ok (.iconst 0, 1) := decs_at bnd_x30_9 21 (x := (37, .iconst 0, 1)) rfl
theorem dX3_isBelow_38 : decode cX3_isBelow 38 = .ok (.ireturn, 1) := decs_at bnd_x30_9 22 (x := (38, .ireturn, 1)) rfl
theorem bnd_x30_10 : decs cX3_mayBeIn [(0, .iload_n 1, 1), (1, .bipush 8, 2), (3, .if_icmp .ne 16, 3), (6, .iload_n 0, 1), (7, .iconst 3, 1), (8, .if_icmp .ge 7, 3), (11, .iconst 1, 1), (12, .goto 41, 3), (15, .iconst 0, 1), (16, .goto 37, 3), (19, .iload_n 1, 1), (20, .bipush 11, 2), (22, .if_icmp .ne 21, 3), (25, .iload_n 0, 1), (26, .iconst 1, 1), (27, .if_icmp .eq 8, 3), (30, .iload_n 0, 1), (31, .iconst 2, 1), (32, .if_icmp .ne 7, 3), (35, .iconst 1, 1), (36, .goto 17, 3), (39, .iconst 0, 1), (40, .goto 13, 3), (43, .iload_n 0, 1)] = true := by decide +kernel
theorem dX3_mayBeIn_0 : decode cX3_mayBeIn 0 = .ok (.iload_n 1, 1) := decs_at bnd_x30_10 0 (x := (0, .iload_n 1, 1)) rfl
theorem dX3_mayBeIn_1 : decode cX3_mayBeIn 1 = .ok (.bipush 8, 2) := decs_at bnd_x30_10 1 (x := (1, .bipush 8, 2)) rfl
theorem dX3_mayBeIn_3 : decode cX3_mayBeIn 3 = .ok (.if_icmp .ne 16, 3) := decs_at bnd_x30_10 2 (x := (3, .if_icmp .ne 16, 3)) rfl
theorem dX3_mayBeIn_6 : decode cX3_mayBeIn 6 = .ok (.iload_n 0, 1) := decs_at bnd_x30_10 3 (x := (6, .iload_n 0, 1)) rfl
theorem dX3_mayBeIn_7 : decode cX3_mayBeIn 7 = .ok (.iconst 3, 1) := decs_at bnd_x30_10 4 (x := (7, .iconst 3, 1)) rfl
theorem dX3_mayBeIn_8 : decode cX3_mayBeIn 8 = .ok (.if_icmp .ge 7, 3) := decs_at bnd_x30_10 5 (x := (8, .if_icmp .ge 7, 3)) rfl
theorem dX3_mayBeIn_11 : decode cX3_mayBeIn 11 = .ok (.iconst 1, 1) := decs_at bnd_x30_10 6 (x := (11, .iconst 1, 1)) rfl
theorem dX3_mayBeIn_12 : decode cX3_mayBeIn 12 = .ok (.goto 41, 3) := decs_at bnd_x30_10 7 (x := (12, .goto 41, 3)) rfl
theorem dX3_mayBeIn_15 : decode cX3_mayBeIn 15 = .ok (.iconst 0, 1) := decs_at bnd_x30_10 8 (x := (15, .iconst 0, 1)) rfl
theorem dX3_mayBeIn_16 : decode cX3_mayBeIn 16 = .ok (.goto 37, 3) := decs_at bnd_x30_10 9 (x := (16, .goto 37, 3)) rfl
theorem dX3_mayBeIn_19 : decode cX3_mayBeIn 19 = .ok (.iload_n 1, 1) := decs_at bnd_x30_10 10 (x := (19, .iload_n 1, 1)) rfl
theorem dX3_mayBeIn_20 : decode cX3_mayBeIn 20 = .ok (.bipush 11, 2) := decs_at bnd_x30_10 11 (x := (20, .bipush 11, 2)) rfl
theorem dX3_mayBeIn_22 : decode cX3_mayBeIn 22 = .ok (.if_icmp .ne 21, 3) := decs_at bnd_x30_10 12 (x := (22, .if_icmp .ne 21, 3)) rfl
theorem dX3_mayBeIn_25 : decode cX3_mayBeIn 25 = .ok (.iload_n 0, 1) := decs_at bnd_x30_10 13 (x := (25, .iload_n 0, 1)) rfl
theorem dX3_mayBeIn_26 : decode cX3_mayBeIn 26 = .ok (.iconst 1, 1) := decs_at bnd_x30_10 14 (x := (26, .iconst 1, 1)) rfl
theorem dX3_mayBeIn_27 : decode cX3_mayBeIn 27 = .ok (.if_icmp .eq 8, 3) := decs_at bnd_x30_10 15 (x := (27, .if_icmp .eq 8, 3)) rfl
theorem dX3_mayBeIn_30 : decode cX3_mayBeIn 30 = .ok (.iload_n 0, 1) := decs_at bnd_x30_10 16 (x := (30, .iload_n 0, 1)) rfl
theorem dX3_mayBeIn_31 : decode cX3_mayBeIn 31 = .ok (.iconst 2, 1) := decs_at bnd_x30_10 17 (x := (31, .iconst 2, 1)) rfl
theorem dX3_mayBeIn_32 : decode cX3_mayBeIn 32 = .ok (.if_icmp .ne 7, 3) := decs_at bnd_x30_10 18 (x := (32, .if_icmp .ne 7, 3)) rfl
theorem dX3_mayBeIn_35 : decode cX3_mayBeIn 35 = .ok (.iconst 1, 1) := decs_at bnd_x30_10 19 (x := (35, .iconst 1, 1)) rfl
theorem dX3_mayBeIn_36 : decode cX3_mayBeIn 36 = .ok (.goto 17, 3) := decs_at bnd_x30_10 20 (x := (36, .goto 17, 3)) rfl
theorem dX3_mayBeIn_39 : decode cX3_mayBeIn 39 = .ok (.iconst 0, 1) := decs_at bnd_x30_10 21 (x := (39, .iconst 0, 1)) rfl
theorem dX3_mayBeIn_40 : decode cX3_mayBeIn 40 = .ok (.goto 13, 3) := decs_at bnd_x30_10 22 (x := (40, .goto 13, 3)) rfl
theorem dX3_mayBeIn_43 : decode cX3_mayBeIn 43 = .ok (.iload_n 0, 1) := decs_at bnd_x30_10 23 (x := (43, .iload_n 0, 1)) rfl
theorem bnd_x30_11 : decs cX3_mayBeIn [(44, .iconst 4, 1), (45, .if_icmp .ge 7, 3), (48, .iconst 1, 1), (49, .goto 4, 3), (52, .iconst 0, 1), (53, .ireturn, 1)] = true := by decide +kernel
theorem dX3_mayBeIn_44 : decode cX3_mayBeIn 44 = .ok (.iconst 4, 1) := decs_at bnd_x30_11 0 (x := (44, .iconst 4, 1)) rfl
theorem dX3_mayBeIn_45 : decode cX3_mayBeIn 45 = .ok (.if_icmp .ge 7, 3) := decs_at bnd_x30_11 1 (x := (45, .if_icmp .ge 7, 3)) rfl
theorem dX3_mayBeIn_48 : decode cX3_mayBeIn 48 = .ok (.iconst 1, 1) := decs_at bnd_x30_11 2 (x := (48, .iconst 1, 1)) rfl
theorem dX3_mayBeIn_49 : decode cX3_mayBeIn 49 = .ok (.goto 4, 3) := decs_at bnd_x30_11 3 (x := (49, .goto 4, 3)) rfl
theorem dX3_mayBeIn_52 : decode cX3_mayBeIn 52 = .ok (.iconst 0, 1) := decs_at bnd_x30_11 4 (x := (52, .iconst 0, 1)) rfl
theorem dX3_mayBeIn_53 : decode cX3_mayBeIn 53 = .ok (.ireturn, 1) := decs_at bnd_x30_11 5 (x := (53, .ireturn, 1)) rfl
set_option maxRecDepth 20000 in
theorem ggX3_lookWhatIsHeld_X3_isLink : GoodIn wsX3_lookWhatIsHeld wsX3_isLink := goodIn_r _ [9] rfl (by decide +kernel)
set_option maxRecDepth 20000 in
theorem gX3_lookWhatIsHeld_X3_isLink : GoodIn wsX3_lookWhatIsHeld (va_wsS RX3 74 yX3_isLink wsX3_isLink) := goodIn_app (goodIn_r _ [6, 7, 8] rfl (by decide +kernel)) ggX3_lookWhatIsHeld_X3_isLink
set_option maxRecDepth 20000 in
theorem ggX3_lookWhatIsHeld_X3_has : GoodIn wsX3_lookWhatIsHeld wsX3_has := goodIn_r _ [12] rfl (by decide +kernel)
set_option maxRecDepth 20000 in
theorem gX3_lookWhatIsHeld_X3_has : GoodIn wsX3_lookWhatIsHeld (va_wsS RX3 78 yX3_has wsX3_has) := goodIn_app (goodIn_r _ [10, 11, 8] rfl (by decide +kernel)) ggX3_lookWhatIsHeld_X3_has
theorem bnd_x30_12 : decs cX3_lookWhatIsHeld [(0, .iconst 0, 1), (1, .istore_n 1, 1), (2, .iload_n 1, 1), (3, .sipush 6400, 3), (6, .if_icmp .ge 16, 3), (9, .aload_n 0, 1), (10, .getfield 28, 3), (13, .iload_n 1, 1), (14, .iconst 0, 1), (15, .bastore, 1), (16, .iinc 1 1, 3), (19, .goto (-17), 3), (22, .iconst 0, 1), (23, .istore_n 1, 1), (24, .iconst 0, 1), (25, .istore_n 2, 1), (26, .iload_n 2, 1), (27, .bipush 12, 2), (29, .if_icmp .ge 60, 3), (32, .aload_n 0, 1), (33, .getfield 7, 3), (36, .iload_n 2, 1), (37, .iaload, 1), (38, .iconst (-1), 1)] = true := by decide +kernel
theorem dX3_lookWhatIsHeld_0 : decode cX3_lookWhatIsHeld 0 = .ok (.iconst 0, 1) := decs_at bnd_x30_12 0 (x := (0, .iconst 0, 1)) rfl
theorem dX3_lookWhatIsHeld_1 : decode cX3_lookWhatIsHeld 1 = .ok (.istore_n 1, 1) := decs_at bnd_x30_12 1 (x := (1, .istore_n 1, 1)) rfl
theorem dX3_lookWhatIsHeld_2 : decode cX3_lookWhatIsHeld 2 = .ok (.iload_n 1, 1) := decs_at bnd_x30_12 2 (x := (2, .iload_n 1, 1)) rfl
theorem dX3_lookWhatIsHeld_3 : decode cX3_lookWhatIsHeld 3 = .ok (.sipush 6400, 3) := decs_at bnd_x30_12 3 (x := (3, .sipush 6400, 3)) rfl
theorem dX3_lookWhatIsHeld_6 : decode cX3_lookWhatIsHeld 6 = .ok (.if_icmp .ge 16, 3) := decs_at bnd_x30_12 4 (x := (6, .if_icmp .ge 16, 3)) rfl
theorem dX3_lookWhatIsHeld_9 : decode cX3_lookWhatIsHeld 9 = .ok (.aload_n 0, 1) := decs_at bnd_x30_12 5 (x := (9, .aload_n 0, 1)) rfl
theorem dX3_lookWhatIsHeld_10 : decode cX3_lookWhatIsHeld 10 = .ok (.getfield 28, 3) := decs_at bnd_x30_12 6 (x := (10, .getfield 28, 3)) rfl
theorem dX3_lookWhatIsHeld_13 : decode cX3_lookWhatIsHeld 13 = .ok (.iload_n 1, 1) := decs_at bnd_x30_12 7 (x := (13, .iload_n 1, 1)) rfl
theorem dX3_lookWhatIsHeld_14 : decode cX3_lookWhatIsHeld 14 = .ok (.iconst 0, 1) := decs_at bnd_x30_12 8 (x := (14, .iconst 0, 1)) rfl
theorem dX3_lookWhatIsHeld_15 : decode cX3_lookWhatIsHeld 15 = .ok (.bastore, 1) := decs_at bnd_x30_12 9 (x := (15, .bastore, 1)) rfl
theorem dX3_lookWhatIsHeld_16 : decode cX3_lookWhatIsHeld 16 = .ok (.iinc 1 1, 3) := decs_at bnd_x30_12 10 (x := (16, .iinc 1 1, 3)) rfl
theorem dX3_lookWhatIsHeld_19 : decode cX3_lookWhatIsHeld 19 = .ok (.goto (-17), 3) := decs_at bnd_x30_12 11 (x := (19, .goto (-17), 3)) rfl
theorem dX3_lookWhatIsHeld_22 : decode cX3_lookWhatIsHeld 22 = .ok (.iconst 0, 1) := decs_at bnd_x30_12 12 (x := (22, .iconst 0, 1)) rfl
theorem dX3_lookWhatIsHeld_23 : decode cX3_lookWhatIsHeld 23 = .ok (.istore_n 1, 1) := decs_at bnd_x30_12 13 (x := (23, .istore_n 1, 1)) rfl
theorem dX3_lookWhatIsHeld_24 : decode cX3_lookWhatIsHeld 24 = .ok (.iconst 0, 1) := decs_at bnd_x30_12 14 (x := (24, .iconst 0, 1)) rfl
theorem dX3_lookWhatIsHeld_25 : decode cX3_lookWhatIsHeld 25 = .ok (.istore_n 2, 1) := decs_at bnd_x30_12 15 (x := (25, .istore_n 2, 1)) rfl
theorem dX3_lookWhatIsHeld_26 : decode cX3_lookWhatIsHeld 26 = .ok (.iload_n 2, 1) := decs_at bnd_x30_12 16 (x := (26, .iload_n 2, 1)) rfl
theorem dX3_lookWhatIsHeld_27 : decode cX3_lookWhatIsHeld 27 = .ok (.bipush 12, 2) := decs_at bnd_x30_12 17 (x := (27, .bipush 12, 2)) rfl
theorem dX3_lookWhatIsHeld_29 : decode cX3_lookWhatIsHeld 29 = .ok (.if_icmp .ge 60, 3) := decs_at bnd_x30_12 18 (x := (29, .if_icmp .ge 60, 3)) rfl
theorem dX3_lookWhatIsHeld_32 : decode cX3_lookWhatIsHeld 32 = .ok (.aload_n 0, 1) := decs_at bnd_x30_12 19 (x := (32, .aload_n 0, 1)) rfl
theorem dX3_lookWhatIsHeld_33 : decode cX3_lookWhatIsHeld 33 = .ok (.getfield 7, 3) := decs_at bnd_x30_12 20 (x := (33, .getfield 7, 3)) rfl
theorem dX3_lookWhatIsHeld_36 : decode cX3_lookWhatIsHeld 36 = .ok (.iload_n 2, 1) := decs_at bnd_x30_12 21 (x := (36, .iload_n 2, 1)) rfl
theorem dX3_lookWhatIsHeld_37 : decode cX3_lookWhatIsHeld 37 = .ok (.iaload, 1) := decs_at bnd_x30_12 22 (x := (37, .iaload, 1)) rfl
theorem dX3_lookWhatIsHeld_38 : decode cX3_lookWhatIsHeld 38 = .ok (.iconst (-1), 1) := decs_at bnd_x30_12 23 (x := (38, .iconst (-1), 1)) rfl
theorem bnd_x30_13 : decs cX3_lookWhatIsHeld [(39, .if_icmp .eq 44, 3), (42, .aload_n 0, 1), (43, .getfield 28, 3), (46, .aload_n 0, 1), (47, .getfield 7, 3), (50, .iload_n 2, 1), (51, .iaload, 1), (52, .baload, 1), (53, .ifCond .ne 30, 3), (56, .aload_n 0, 1), (57, .getfield 28, 3), (60, .aload_n 0, 1), (61, .getfield 7, 3), (64, .iload_n 2, 1), (65, .iaload, 1), (66, .iconst 1, 1), (67, .bastore, 1), (68, .aload_n 0, 1), (69, .getfield 32, 3), (72, .iload_n 1, 1), (73, .aload_n 0, 1), (74, .getfield 7, 3), (77, .iload_n 2, 1), (78, .iaload, 1)] = true := by decide +kernel
theorem dX3_lookWhatIsHeld_39 : decode cX3_lookWhatIsHeld 39 = .ok (.if_icmp .eq 44, 3) := decs_at bnd_x30_13 0 (x := (39, .if_icmp .eq 44, 3)) rfl
theorem dX3_lookWhatIsHeld_42 : decode cX3_lookWhatIsHeld 42 = .ok (.aload_n 0, 1) := decs_at bnd_x30_13 1 (x := (42, .aload_n 0, 1)) rfl
theorem dX3_lookWhatIsHeld_43 : decode cX3_lookWhatIsHeld 43 = .ok (.getfield 28, 3) := decs_at bnd_x30_13 2 (x := (43, .getfield 28, 3)) rfl
theorem dX3_lookWhatIsHeld_46 : decode cX3_lookWhatIsHeld 46 = .ok (.aload_n 0, 1) := decs_at bnd_x30_13 3 (x := (46, .aload_n 0, 1)) rfl
theorem dX3_lookWhatIsHeld_47 : decode cX3_lookWhatIsHeld 47 = .ok (.getfield 7, 3) := decs_at bnd_x30_13 4 (x := (47, .getfield 7, 3)) rfl
theorem dX3_lookWhatIsHeld_50 : decode cX3_lookWhatIsHeld 50 = .ok (.iload_n 2, 1) := decs_at bnd_x30_13 5 (x := (50, .iload_n 2, 1)) rfl
theorem dX3_lookWhatIsHeld_51 : decode cX3_lookWhatIsHeld 51 = .ok (.iaload, 1) := decs_at bnd_x30_13 6 (x := (51, .iaload, 1)) rfl
theorem dX3_lookWhatIsHeld_52 : decode cX3_lookWhatIsHeld 52 = .ok (.baload, 1) := decs_at bnd_x30_13 7 (x := (52, .baload, 1)) rfl
theorem dX3_lookWhatIsHeld_53 : decode cX3_lookWhatIsHeld 53 = .ok (.ifCond .ne 30, 3) := decs_at bnd_x30_13 8 (x := (53, .ifCond .ne 30, 3)) rfl
theorem dX3_lookWhatIsHeld_56 : decode cX3_lookWhatIsHeld 56 = .ok (.aload_n 0, 1) := decs_at bnd_x30_13 9 (x := (56, .aload_n 0, 1)) rfl
theorem dX3_lookWhatIsHeld_57 : decode cX3_lookWhatIsHeld 57 = .ok (.getfield 28, 3) := decs_at bnd_x30_13 10 (x := (57, .getfield 28, 3)) rfl
theorem dX3_lookWhatIsHeld_60 : decode cX3_lookWhatIsHeld 60 = .ok (.aload_n 0, 1) := decs_at bnd_x30_13 11 (x := (60, .aload_n 0, 1)) rfl
theorem dX3_lookWhatIsHeld_61 : decode cX3_lookWhatIsHeld 61 = .ok (.getfield 7, 3) := decs_at bnd_x30_13 12 (x := (61, .getfield 7, 3)) rfl
theorem dX3_lookWhatIsHeld_64 : decode cX3_lookWhatIsHeld 64 = .ok (.iload_n 2, 1) := decs_at bnd_x30_13 13 (x := (64, .iload_n 2, 1)) rfl
theorem dX3_lookWhatIsHeld_65 : decode cX3_lookWhatIsHeld 65 = .ok (.iaload, 1) := decs_at bnd_x30_13 14 (x := (65, .iaload, 1)) rfl
theorem dX3_lookWhatIsHeld_66 : decode cX3_lookWhatIsHeld 66 = .ok (.iconst 1, 1) := decs_at bnd_x30_13 15 (x := (66, .iconst 1, 1)) rfl
theorem dX3_lookWhatIsHeld_67 : decode cX3_lookWhatIsHeld 67 = .ok (.bastore, 1) := decs_at bnd_x30_13 16 (x := (67, .bastore, 1)) rfl
theorem dX3_lookWhatIsHeld_68 : decode cX3_lookWhatIsHeld 68 = .ok (.aload_n 0, 1) := decs_at bnd_x30_13 17 (x := (68, .aload_n 0, 1)) rfl
theorem dX3_lookWhatIsHeld_69 : decode cX3_lookWhatIsHeld 69 = .ok (.getfield 32, 3) := decs_at bnd_x30_13 18 (x := (69, .getfield 32, 3)) rfl
theorem dX3_lookWhatIsHeld_72 : decode cX3_lookWhatIsHeld 72 = .ok (.iload_n 1, 1) := decs_at bnd_x30_13 19 (x := (72, .iload_n 1, 1)) rfl
theorem dX3_lookWhatIsHeld_73 : decode cX3_lookWhatIsHeld 73 = .ok (.aload_n 0, 1) := decs_at bnd_x30_13 20 (x := (73, .aload_n 0, 1)) rfl
theorem dX3_lookWhatIsHeld_74 : decode cX3_lookWhatIsHeld 74 = .ok (.getfield 7, 3) := decs_at bnd_x30_13 21 (x := (74, .getfield 7, 3)) rfl
theorem dX3_lookWhatIsHeld_77 : decode cX3_lookWhatIsHeld 77 = .ok (.iload_n 2, 1) := decs_at bnd_x30_13 22 (x := (77, .iload_n 2, 1)) rfl
theorem dX3_lookWhatIsHeld_78 : decode cX3_lookWhatIsHeld 78 = .ok (.iaload, 1) := decs_at bnd_x30_13 23 (x := (78, .iaload, 1)) rfl
theorem bnd_x30_14 : decs cX3_lookWhatIsHeld [(79, .iastore, 1), (80, .iinc 1 1, 3), (83, .iinc 2 1, 3), (86, .goto (-60), 3), (89, .iload_n 1, 1), (90, .ifCond .le 100, 3), (93, .iinc 1 (-1), 3), (96, .aload_n 0, 1), (97, .getfield 32, 3), (100, .iload_n 1, 1), (101, .iaload, 1), (102, .istore_n 2, 1), (103, .bipush 8, 2), (105, .istore_n 3, 1), (106, .iload_n 3, 1), (107, .bipush 16, 2), (109, .if_icmp .ge 78, 3), (112, .iload_n 3, 1), (113, .invokestatic 74, 3), (116, .ifCond .eq 65, 3), (119, .aload_n 0, 1), (120, .getfield 13, 3), (123, .iload_n 2, 1), (124, .iaload, 1)] = true := by decide +kernel
theorem dX3_lookWhatIsHeld_79 : decode cX3_lookWhatIsHeld 79 = .ok (.iastore, 1) := decs_at bnd_x30_14 0 (x := (79, .iastore, 1)) rfl
theorem dX3_lookWhatIsHeld_80 : decode cX3_lookWhatIsHeld 80 = .ok (.iinc 1 1, 3) := decs_at bnd_x30_14 1 (x := (80, .iinc 1 1, 3)) rfl
theorem dX3_lookWhatIsHeld_83 : decode cX3_lookWhatIsHeld 83 = .ok (.iinc 2 1, 3) := decs_at bnd_x30_14 2 (x := (83, .iinc 2 1, 3)) rfl
theorem dX3_lookWhatIsHeld_86 : decode cX3_lookWhatIsHeld 86 = .ok (.goto (-60), 3) := decs_at bnd_x30_14 3 (x := (86, .goto (-60), 3)) rfl
theorem dX3_lookWhatIsHeld_89 : decode cX3_lookWhatIsHeld 89 = .ok (.iload_n 1, 1) := decs_at bnd_x30_14 4 (x := (89, .iload_n 1, 1)) rfl
theorem dX3_lookWhatIsHeld_90 : decode cX3_lookWhatIsHeld 90 = .ok (.ifCond .le 100, 3) := decs_at bnd_x30_14 5 (x := (90, .ifCond .le 100, 3)) rfl
theorem dX3_lookWhatIsHeld_93 : decode cX3_lookWhatIsHeld 93 = .ok (.iinc 1 (-1), 3) := decs_at bnd_x30_14 6 (x := (93, .iinc 1 (-1), 3)) rfl
theorem dX3_lookWhatIsHeld_96 : decode cX3_lookWhatIsHeld 96 = .ok (.aload_n 0, 1) := decs_at bnd_x30_14 7 (x := (96, .aload_n 0, 1)) rfl
theorem dX3_lookWhatIsHeld_97 : decode cX3_lookWhatIsHeld 97 = .ok (.getfield 32, 3) := decs_at bnd_x30_14 8 (x := (97, .getfield 32, 3)) rfl
theorem dX3_lookWhatIsHeld_100 : decode cX3_lookWhatIsHeld 100 = .ok (.iload_n 1, 1) := decs_at bnd_x30_14 9 (x := (100, .iload_n 1, 1)) rfl
theorem dX3_lookWhatIsHeld_101 : decode cX3_lookWhatIsHeld 101 = .ok (.iaload, 1) := decs_at bnd_x30_14 10 (x := (101, .iaload, 1)) rfl
theorem dX3_lookWhatIsHeld_102 : decode cX3_lookWhatIsHeld 102 = .ok (.istore_n 2, 1) := decs_at bnd_x30_14 11 (x := (102, .istore_n 2, 1)) rfl
theorem dX3_lookWhatIsHeld_103 : decode cX3_lookWhatIsHeld 103 = .ok (.bipush 8, 2) := decs_at bnd_x30_14 12 (x := (103, .bipush 8, 2)) rfl
theorem dX3_lookWhatIsHeld_105 : decode cX3_lookWhatIsHeld 105 = .ok (.istore_n 3, 1) := decs_at bnd_x30_14 13 (x := (105, .istore_n 3, 1)) rfl
theorem dX3_lookWhatIsHeld_106 : decode cX3_lookWhatIsHeld 106 = .ok (.iload_n 3, 1) := decs_at bnd_x30_14 14 (x := (106, .iload_n 3, 1)) rfl
theorem dX3_lookWhatIsHeld_107 : decode cX3_lookWhatIsHeld 107 = .ok (.bipush 16, 2) := decs_at bnd_x30_14 15 (x := (107, .bipush 16, 2)) rfl
theorem dX3_lookWhatIsHeld_109 : decode cX3_lookWhatIsHeld 109 = .ok (.if_icmp .ge 78, 3) := decs_at bnd_x30_14 16 (x := (109, .if_icmp .ge 78, 3)) rfl
theorem dX3_lookWhatIsHeld_112 : decode cX3_lookWhatIsHeld 112 = .ok (.iload_n 3, 1) := decs_at bnd_x30_14 17 (x := (112, .iload_n 3, 1)) rfl
theorem dX3_lookWhatIsHeld_113 : decode cX3_lookWhatIsHeld 113 = .ok (.invokestatic 74, 3) := decs_at bnd_x30_14 18 (x := (113, .invokestatic 74, 3)) rfl
theorem dX3_lookWhatIsHeld_116 : decode cX3_lookWhatIsHeld 116 = .ok (.ifCond .eq 65, 3) := decs_at bnd_x30_14 19 (x := (116, .ifCond .eq 65, 3)) rfl
theorem dX3_lookWhatIsHeld_119 : decode cX3_lookWhatIsHeld 119 = .ok (.aload_n 0, 1) := decs_at bnd_x30_14 20 (x := (119, .aload_n 0, 1)) rfl
theorem dX3_lookWhatIsHeld_120 : decode cX3_lookWhatIsHeld 120 = .ok (.getfield 13, 3) := decs_at bnd_x30_14 21 (x := (120, .getfield 13, 3)) rfl
theorem dX3_lookWhatIsHeld_123 : decode cX3_lookWhatIsHeld 123 = .ok (.iload_n 2, 1) := decs_at bnd_x30_14 22 (x := (123, .iload_n 2, 1)) rfl
theorem dX3_lookWhatIsHeld_124 : decode cX3_lookWhatIsHeld 124 = .ok (.iaload, 1) := decs_at bnd_x30_14 23 (x := (124, .iaload, 1)) rfl
theorem bnd_x30_15 : decs cX3_lookWhatIsHeld [(125, .iload_n 3, 1), (126, .invokestatic 78, 3), (129, .ifCond .eq 52, 3), (132, .aload_n 0, 1), (133, .getfield 17, 3), (136, .bipush 17, 2), (138, .iload_n 2, 1), (139, .imul, 1), (140, .iload_n 3, 1), (141, .iadd, 1), (142, .laload, 1), (143, .l2i, 1), (144, .istore 4, 2), (146, .iload 4, 2), (148, .iconst (-1), 1), (149, .if_icmp .eq 32, 3), (152, .aload_n 0, 1), (153, .getfield 28, 3), (156, .iload 4, 2), (158, .baload, 1), (159, .ifCond .ne 22, 3), (162, .aload_n 0, 1), (163, .getfield 28, 3), (166, .iload 4, 2)] = true := by decide +kernel
theorem dX3_lookWhatIsHeld_125 : decode cX3_lookWhatIsHeld 125 = .ok (.iload_n 3, 1) := decs_at bnd_x30_15 0 (x := (125, .iload_n 3, 1)) rfl
theorem dX3_lookWhatIsHeld_126 : decode cX3_lookWhatIsHeld 126 = .ok (.invokestatic 78, 3) := decs_at bnd_x30_15 1 (x := (126, .invokestatic 78, 3)) rfl
theorem dX3_lookWhatIsHeld_129 : decode cX3_lookWhatIsHeld 129 = .ok (.ifCond .eq 52, 3) := decs_at bnd_x30_15 2 (x := (129, .ifCond .eq 52, 3)) rfl
theorem dX3_lookWhatIsHeld_132 : decode cX3_lookWhatIsHeld 132 = .ok (.aload_n 0, 1) := decs_at bnd_x30_15 3 (x := (132, .aload_n 0, 1)) rfl
theorem dX3_lookWhatIsHeld_133 : decode cX3_lookWhatIsHeld 133 = .ok (.getfield 17, 3) := decs_at bnd_x30_15 4 (x := (133, .getfield 17, 3)) rfl
theorem dX3_lookWhatIsHeld_136 : decode cX3_lookWhatIsHeld 136 = .ok (.bipush 17, 2) := decs_at bnd_x30_15 5 (x := (136, .bipush 17, 2)) rfl
theorem dX3_lookWhatIsHeld_138 : decode cX3_lookWhatIsHeld 138 = .ok (.iload_n 2, 1) := decs_at bnd_x30_15 6 (x := (138, .iload_n 2, 1)) rfl
theorem dX3_lookWhatIsHeld_139 : decode cX3_lookWhatIsHeld 139 = .ok (.imul, 1) := decs_at bnd_x30_15 7 (x := (139, .imul, 1)) rfl
theorem dX3_lookWhatIsHeld_140 : decode cX3_lookWhatIsHeld 140 = .ok (.iload_n 3, 1) := decs_at bnd_x30_15 8 (x := (140, .iload_n 3, 1)) rfl
theorem dX3_lookWhatIsHeld_141 : decode cX3_lookWhatIsHeld 141 = .ok (.iadd, 1) := decs_at bnd_x30_15 9 (x := (141, .iadd, 1)) rfl
theorem dX3_lookWhatIsHeld_142 : decode cX3_lookWhatIsHeld 142 = .ok (.laload, 1) := decs_at bnd_x30_15 10 (x := (142, .laload, 1)) rfl
theorem dX3_lookWhatIsHeld_143 : decode cX3_lookWhatIsHeld 143 = .ok (.l2i, 1) := decs_at bnd_x30_15 11 (x := (143, .l2i, 1)) rfl
theorem dX3_lookWhatIsHeld_144 : decode cX3_lookWhatIsHeld 144 = .ok (.istore 4, 2) := decs_at bnd_x30_15 12 (x := (144, .istore 4, 2)) rfl
theorem dX3_lookWhatIsHeld_146 : decode cX3_lookWhatIsHeld 146 = .ok (.iload 4, 2) := decs_at bnd_x30_15 13 (x := (146, .iload 4, 2)) rfl
theorem dX3_lookWhatIsHeld_148 : decode cX3_lookWhatIsHeld 148 = .ok (.iconst (-1), 1) := decs_at bnd_x30_15 14 (x := (148, .iconst (-1), 1)) rfl
theorem dX3_lookWhatIsHeld_149 : decode cX3_lookWhatIsHeld 149 = .ok (.if_icmp .eq 32, 3) := decs_at bnd_x30_15 15 (x := (149, .if_icmp .eq 32, 3)) rfl
theorem dX3_lookWhatIsHeld_152 : decode cX3_lookWhatIsHeld 152 = .ok (.aload_n 0, 1) := decs_at bnd_x30_15 16 (x := (152, .aload_n 0, 1)) rfl
theorem dX3_lookWhatIsHeld_153 : decode cX3_lookWhatIsHeld 153 = .ok (.getfield 28, 3) := decs_at bnd_x30_15 17 (x := (153, .getfield 28, 3)) rfl
theorem dX3_lookWhatIsHeld_156 : decode cX3_lookWhatIsHeld 156 = .ok (.iload 4, 2) := decs_at bnd_x30_15 18 (x := (156, .iload 4, 2)) rfl
theorem dX3_lookWhatIsHeld_158 : decode cX3_lookWhatIsHeld 158 = .ok (.baload, 1) := decs_at bnd_x30_15 19 (x := (158, .baload, 1)) rfl
theorem dX3_lookWhatIsHeld_159 : decode cX3_lookWhatIsHeld 159 = .ok (.ifCond .ne 22, 3) := decs_at bnd_x30_15 20 (x := (159, .ifCond .ne 22, 3)) rfl
theorem dX3_lookWhatIsHeld_162 : decode cX3_lookWhatIsHeld 162 = .ok (.aload_n 0, 1) := decs_at bnd_x30_15 21 (x := (162, .aload_n 0, 1)) rfl
theorem dX3_lookWhatIsHeld_163 : decode cX3_lookWhatIsHeld 163 = .ok (.getfield 28, 3) := decs_at bnd_x30_15 22 (x := (163, .getfield 28, 3)) rfl
theorem dX3_lookWhatIsHeld_166 : decode cX3_lookWhatIsHeld 166 = .ok (.iload 4, 2) := decs_at bnd_x30_15 23 (x := (166, .iload 4, 2)) rfl
theorem bnd_x30_16 : decs cX3_lookWhatIsHeld [(168, .iconst 1, 1), (169, .bastore, 1), (170, .aload_n 0, 1), (171, .getfield 32, 3), (174, .iload_n 1, 1), (175, .iload 4, 2), (177, .iastore, 1), (178, .iinc 1 1, 3), (181, .iinc 3 1, 3), (184, .goto (-78), 3), (187, .goto (-98), 3), (190, .return_, 1)] = true := by decide +kernel
theorem dX3_lookWhatIsHeld_168 : decode cX3_lookWhatIsHeld 168 = .ok (.iconst 1, 1) := decs_at bnd_x30_16 0 (x := (168, .iconst 1, 1)) rfl
theorem dX3_lookWhatIsHeld_169 : decode cX3_lookWhatIsHeld 169 = .ok (.bastore, 1) := decs_at bnd_x30_16 1 (x := (169, .bastore, 1)) rfl
theorem dX3_lookWhatIsHeld_170 : decode cX3_lookWhatIsHeld 170 = .ok (.aload_n 0, 1) := decs_at bnd_x30_16 2 (x := (170, .aload_n 0, 1)) rfl
theorem dX3_lookWhatIsHeld_171 : decode cX3_lookWhatIsHeld 171 = .ok (.getfield 32, 3) := decs_at bnd_x30_16 3 (x := (171, .getfield 32, 3)) rfl
theorem dX3_lookWhatIsHeld_174 : decode cX3_lookWhatIsHeld 174 = .ok (.iload_n 1, 1) := decs_at bnd_x30_16 4 (x := (174, .iload_n 1, 1)) rfl
theorem dX3_lookWhatIsHeld_175 : decode cX3_lookWhatIsHeld 175 = .ok (.iload 4, 2) := decs_at bnd_x30_16 5 (x := (175, .iload 4, 2)) rfl
theorem dX3_lookWhatIsHeld_177 : decode cX3_lookWhatIsHeld 177 = .ok (.iastore, 1) := decs_at bnd_x30_16 6 (x := (177, .iastore, 1)) rfl
theorem dX3_lookWhatIsHeld_178 : decode cX3_lookWhatIsHeld 178 = .ok (.iinc 1 1, 3) := decs_at bnd_x30_16 7 (x := (178, .iinc 1 1, 3)) rfl
theorem dX3_lookWhatIsHeld_181 : decode cX3_lookWhatIsHeld 181 = .ok (.iinc 3 1, 3) := decs_at bnd_x30_16 8 (x := (181, .iinc 3 1, 3)) rfl
theorem dX3_lookWhatIsHeld_184 : decode cX3_lookWhatIsHeld 184 = .ok (.goto (-78), 3) := decs_at bnd_x30_16 9 (x := (184, .goto (-78), 3)) rfl
theorem dX3_lookWhatIsHeld_187 : decode cX3_lookWhatIsHeld 187 = .ok (.goto (-98), 3) := decs_at bnd_x30_16 10 (x := (187, .goto (-98), 3)) rfl
theorem dX3_lookWhatIsHeld_190 : decode cX3_lookWhatIsHeld 190 = .ok (.return_, 1) := decs_at bnd_x30_16 11 (x := (190, .return_, 1)) rfl
set_option maxRecDepth 20000 in
theorem ggX3_born_X3_isLink : GoodIn wsX3_born wsX3_isLink := goodIn_r _ [9] rfl (by decide +kernel)
set_option maxRecDepth 20000 in
theorem gX3_born_X3_isLink : GoodIn wsX3_born (va_wsS RX3 74 yX3_isLink wsX3_isLink) := goodIn_app (goodIn_r _ [6, 7, 8] rfl (by decide +kernel)) ggX3_born_X3_isLink
theorem bnd_x30_17 : decs cX3_born [(0, .iconst 0, 1), (1, .istore_n 3, 1), (2, .aload_n 0, 1), (3, .getfield 28, 3), (6, .iload_n 3, 1), (7, .baload, 1), (8, .ifCond .eq 9, 3), (11, .iinc 3 1, 3), (14, .goto (-12), 3), (17, .aload_n 0, 1), (18, .getfield 28, 3), (21, .iload_n 3, 1), (22, .iconst 1, 1), (23, .bastore, 1), (24, .aload_n 0, 1), (25, .getfield 13, 3), (28, .iload_n 3, 1), (29, .iload_n 1, 1), (30, .iastore, 1), (31, .iconst 0, 1), (32, .istore 4, 2), (34, .iload 4, 2), (36, .bipush 17, 2), (38, .if_icmp .ge 36, 3)] = true := by decide +kernel
theorem dX3_born_0 : decode cX3_born 0 = .ok (.iconst 0, 1) := decs_at bnd_x30_17 0 (x := (0, .iconst 0, 1)) rfl
theorem dX3_born_1 : decode cX3_born 1 = .ok (.istore_n 3, 1) := decs_at bnd_x30_17 1 (x := (1, .istore_n 3, 1)) rfl
theorem dX3_born_2 : decode cX3_born 2 = .ok (.aload_n 0, 1) := decs_at bnd_x30_17 2 (x := (2, .aload_n 0, 1)) rfl
theorem dX3_born_3 : decode cX3_born 3 = .ok (.getfield 28, 3) := decs_at bnd_x30_17 3 (x := (3, .getfield 28, 3)) rfl
theorem dX3_born_6 : decode cX3_born 6 = .ok (.iload_n 3, 1) := decs_at bnd_x30_17 4 (x := (6, .iload_n 3, 1)) rfl
theorem dX3_born_7 : decode cX3_born 7 = .ok (.baload, 1) := decs_at bnd_x30_17 5 (x := (7, .baload, 1)) rfl
theorem dX3_born_8 : decode cX3_born 8 = .ok (.ifCond .eq 9, 3) := decs_at bnd_x30_17 6 (x := (8, .ifCond .eq 9, 3)) rfl
theorem dX3_born_11 : decode cX3_born 11 = .ok (.iinc 3 1, 3) := decs_at bnd_x30_17 7 (x := (11, .iinc 3 1, 3)) rfl
theorem dX3_born_14 : decode cX3_born 14 = .ok (.goto (-12), 3) := decs_at bnd_x30_17 8 (x := (14, .goto (-12), 3)) rfl
theorem dX3_born_17 : decode cX3_born 17 = .ok (.aload_n 0, 1) := decs_at bnd_x30_17 9 (x := (17, .aload_n 0, 1)) rfl
theorem dX3_born_18 : decode cX3_born 18 = .ok (.getfield 28, 3) := decs_at bnd_x30_17 10 (x := (18, .getfield 28, 3)) rfl
theorem dX3_born_21 : decode cX3_born 21 = .ok (.iload_n 3, 1) := decs_at bnd_x30_17 11 (x := (21, .iload_n 3, 1)) rfl
theorem dX3_born_22 : decode cX3_born 22 = .ok (.iconst 1, 1) := decs_at bnd_x30_17 12 (x := (22, .iconst 1, 1)) rfl
theorem dX3_born_23 : decode cX3_born 23 = .ok (.bastore, 1) := decs_at bnd_x30_17 13 (x := (23, .bastore, 1)) rfl
theorem dX3_born_24 : decode cX3_born 24 = .ok (.aload_n 0, 1) := decs_at bnd_x30_17 14 (x := (24, .aload_n 0, 1)) rfl
theorem dX3_born_25 : decode cX3_born 25 = .ok (.getfield 13, 3) := decs_at bnd_x30_17 15 (x := (25, .getfield 13, 3)) rfl
theorem dX3_born_28 : decode cX3_born 28 = .ok (.iload_n 3, 1) := decs_at bnd_x30_17 16 (x := (28, .iload_n 3, 1)) rfl
theorem dX3_born_29 : decode cX3_born 29 = .ok (.iload_n 1, 1) := decs_at bnd_x30_17 17 (x := (29, .iload_n 1, 1)) rfl
theorem dX3_born_30 : decode cX3_born 30 = .ok (.iastore, 1) := decs_at bnd_x30_17 18 (x := (30, .iastore, 1)) rfl
theorem dX3_born_31 : decode cX3_born 31 = .ok (.iconst 0, 1) := decs_at bnd_x30_17 19 (x := (31, .iconst 0, 1)) rfl
theorem dX3_born_32 : decode cX3_born 32 = .ok (.istore 4, 2) := decs_at bnd_x30_17 20 (x := (32, .istore 4, 2)) rfl
theorem dX3_born_34 : decode cX3_born 34 = .ok (.iload 4, 2) := decs_at bnd_x30_17 21 (x := (34, .iload 4, 2)) rfl
theorem dX3_born_36 : decode cX3_born 36 = .ok (.bipush 17, 2) := decs_at bnd_x30_17 22 (x := (36, .bipush 17, 2)) rfl
theorem dX3_born_38 : decode cX3_born 38 = .ok (.if_icmp .ge 36, 3) := decs_at bnd_x30_17 23 (x := (38, .if_icmp .ge 36, 3)) rfl
theorem bnd_x30_18 : decs cX3_born [(41, .aload_n 0, 1), (42, .getfield 17, 3), (45, .bipush 17, 2), (47, .iload_n 3, 1), (48, .imul, 1), (49, .iload 4, 2), (51, .iadd, 1), (52, .iload 4, 2), (54, .invokestatic 74, 3), (57, .ifCond .eq 9, 3), (60, .ldc2_w 82, 3), (63, .goto 4, 3), (66, .lconst 0, 1), (67, .lastore, 1), (68, .iinc 4 1, 3), (71, .goto (-37), 3), (74, .aload_n 0, 1), (75, .getfield 21, 3), (78, .iload_n 3, 1), (79, .iconst (-1), 1), (80, .iastore, 1), (81, .iload_n 1, 1), (82, .iconst 2, 1), (83, .if_icmp .ne 17, 3)] = true := by decide +kernel
theorem dX3_born_41 : decode cX3_born 41 = .ok (.aload_n 0, 1) := decs_at bnd_x30_18 0 (x := (41, .aload_n 0, 1)) rfl
theorem dX3_born_42 : decode cX3_born 42 = .ok (.getfield 17, 3) := decs_at bnd_x30_18 1 (x := (42, .getfield 17, 3)) rfl
theorem dX3_born_45 : decode cX3_born 45 = .ok (.bipush 17, 2) := decs_at bnd_x30_18 2 (x := (45, .bipush 17, 2)) rfl
theorem dX3_born_47 : decode cX3_born 47 = .ok (.iload_n 3, 1) := decs_at bnd_x30_18 3 (x := (47, .iload_n 3, 1)) rfl
theorem dX3_born_48 : decode cX3_born 48 = .ok (.imul, 1) := decs_at bnd_x30_18 4 (x := (48, .imul, 1)) rfl
theorem dX3_born_49 : decode cX3_born 49 = .ok (.iload 4, 2) := decs_at bnd_x30_18 5 (x := (49, .iload 4, 2)) rfl
theorem dX3_born_51 : decode cX3_born 51 = .ok (.iadd, 1) := decs_at bnd_x30_18 6 (x := (51, .iadd, 1)) rfl
theorem dX3_born_52 : decode cX3_born 52 = .ok (.iload 4, 2) := decs_at bnd_x30_18 7 (x := (52, .iload 4, 2)) rfl
theorem dX3_born_54 : decode cX3_born 54 = .ok (.invokestatic 74, 3) := decs_at bnd_x30_18 8 (x := (54, .invokestatic 74, 3)) rfl
theorem dX3_born_57 : decode cX3_born 57 = .ok (.ifCond .eq 9, 3) := decs_at bnd_x30_18 9 (x := (57, .ifCond .eq 9, 3)) rfl
theorem dX3_born_60 : decode cX3_born 60 = .ok (.ldc2_w 82, 3) := decs_at bnd_x30_18 10 (x := (60, .ldc2_w 82, 3)) rfl
theorem dX3_born_63 : decode cX3_born 63 = .ok (.goto 4, 3) := decs_at bnd_x30_18 11 (x := (63, .goto 4, 3)) rfl
theorem dX3_born_66 : decode cX3_born 66 = .ok (.lconst 0, 1) := decs_at bnd_x30_18 12 (x := (66, .lconst 0, 1)) rfl
theorem dX3_born_67 : decode cX3_born 67 = .ok (.lastore, 1) := decs_at bnd_x30_18 13 (x := (67, .lastore, 1)) rfl
theorem dX3_born_68 : decode cX3_born 68 = .ok (.iinc 4 1, 3) := decs_at bnd_x30_18 14 (x := (68, .iinc 4 1, 3)) rfl
theorem dX3_born_71 : decode cX3_born 71 = .ok (.goto (-37), 3) := decs_at bnd_x30_18 15 (x := (71, .goto (-37), 3)) rfl
theorem dX3_born_74 : decode cX3_born 74 = .ok (.aload_n 0, 1) := decs_at bnd_x30_18 16 (x := (74, .aload_n 0, 1)) rfl
theorem dX3_born_75 : decode cX3_born 75 = .ok (.getfield 21, 3) := decs_at bnd_x30_18 17 (x := (75, .getfield 21, 3)) rfl
theorem dX3_born_78 : decode cX3_born 78 = .ok (.iload_n 3, 1) := decs_at bnd_x30_18 18 (x := (78, .iload_n 3, 1)) rfl
theorem dX3_born_79 : decode cX3_born 79 = .ok (.iconst (-1), 1) := decs_at bnd_x30_18 19 (x := (79, .iconst (-1), 1)) rfl
theorem dX3_born_80 : decode cX3_born 80 = .ok (.iastore, 1) := decs_at bnd_x30_18 20 (x := (80, .iastore, 1)) rfl
theorem dX3_born_81 : decode cX3_born 81 = .ok (.iload_n 1, 1) := decs_at bnd_x30_18 21 (x := (81, .iload_n 1, 1)) rfl
theorem dX3_born_82 : decode cX3_born 82 = .ok (.iconst 2, 1) := decs_at bnd_x30_18 22 (x := (82, .iconst 2, 1)) rfl
theorem dX3_born_83 : decode cX3_born 83 = .ok (.if_icmp .ne 17, 3) := decs_at bnd_x30_18 23 (x := (83, .if_icmp .ne 17, 3)) rfl
theorem bnd_x30_19 : decs cX3_born [(86, .aload_n 0, 1), (87, .getfield 17, 3), (90, .bipush 17, 2), (92, .iload_n 3, 1), (93, .imul, 1), (94, .bipush 13, 2), (96, .iadd, 1), (97, .iload_n 2, 1), (98, .i2l, 1), (99, .lastore, 1), (100, .iload_n 1, 1), (101, .iconst 4, 1), (102, .if_icmp .ne 17, 3), (105, .aload_n 0, 1), (106, .getfield 17, 3), (109, .bipush 17, 2), (111, .iload_n 3, 1), (112, .imul, 1), (113, .bipush 16, 2), (115, .iadd, 1), (116, .iload_n 2, 1), (117, .i2l, 1), (118, .lastore, 1), (119, .iload_n 3, 1)] = true := by decide +kernel
theorem dX3_born_86 : decode cX3_born 86 = .ok (.aload_n 0, 1) := decs_at bnd_x30_19 0 (x := (86, .aload_n 0, 1)) rfl
theorem dX3_born_87 : decode cX3_born 87 = .ok (.getfield 17, 3) := decs_at bnd_x30_19 1 (x := (87, .getfield 17, 3)) rfl
theorem dX3_born_90 : decode cX3_born 90 = .ok (.bipush 17, 2) := decs_at bnd_x30_19 2 (x := (90, .bipush 17, 2)) rfl
theorem dX3_born_92 : decode cX3_born 92 = .ok (.iload_n 3, 1) := decs_at bnd_x30_19 3 (x := (92, .iload_n 3, 1)) rfl
theorem dX3_born_93 : decode cX3_born 93 = .ok (.imul, 1) := decs_at bnd_x30_19 4 (x := (93, .imul, 1)) rfl
theorem dX3_born_94 : decode cX3_born 94 = .ok (.bipush 13, 2) := decs_at bnd_x30_19 5 (x := (94, .bipush 13, 2)) rfl
theorem dX3_born_96 : decode cX3_born 96 = .ok (.iadd, 1) := decs_at bnd_x30_19 6 (x := (96, .iadd, 1)) rfl
theorem dX3_born_97 : decode cX3_born 97 = .ok (.iload_n 2, 1) := decs_at bnd_x30_19 7 (x := (97, .iload_n 2, 1)) rfl
theorem dX3_born_98 : decode cX3_born 98 = .ok (.i2l, 1) := decs_at bnd_x30_19 8 (x := (98, .i2l, 1)) rfl
theorem dX3_born_99 : decode cX3_born 99 = .ok (.lastore, 1) := decs_at bnd_x30_19 9 (x := (99, .lastore, 1)) rfl
theorem dX3_born_100 : decode cX3_born 100 = .ok (.iload_n 1, 1) := decs_at bnd_x30_19 10 (x := (100, .iload_n 1, 1)) rfl
theorem dX3_born_101 : decode cX3_born 101 = .ok (.iconst 4, 1) := decs_at bnd_x30_19 11 (x := (101, .iconst 4, 1)) rfl
theorem dX3_born_102 : decode cX3_born 102 = .ok (.if_icmp .ne 17, 3) := decs_at bnd_x30_19 12 (x := (102, .if_icmp .ne 17, 3)) rfl
theorem dX3_born_105 : decode cX3_born 105 = .ok (.aload_n 0, 1) := decs_at bnd_x30_19 13 (x := (105, .aload_n 0, 1)) rfl
theorem dX3_born_106 : decode cX3_born 106 = .ok (.getfield 17, 3) := decs_at bnd_x30_19 14 (x := (106, .getfield 17, 3)) rfl
theorem dX3_born_109 : decode cX3_born 109 = .ok (.bipush 17, 2) := decs_at bnd_x30_19 15 (x := (109, .bipush 17, 2)) rfl
theorem dX3_born_111 : decode cX3_born 111 = .ok (.iload_n 3, 1) := decs_at bnd_x30_19 16 (x := (111, .iload_n 3, 1)) rfl
theorem dX3_born_112 : decode cX3_born 112 = .ok (.imul, 1) := decs_at bnd_x30_19 17 (x := (112, .imul, 1)) rfl
theorem dX3_born_113 : decode cX3_born 113 = .ok (.bipush 16, 2) := decs_at bnd_x30_19 18 (x := (113, .bipush 16, 2)) rfl
theorem dX3_born_115 : decode cX3_born 115 = .ok (.iadd, 1) := decs_at bnd_x30_19 19 (x := (115, .iadd, 1)) rfl
theorem dX3_born_116 : decode cX3_born 116 = .ok (.iload_n 2, 1) := decs_at bnd_x30_19 20 (x := (116, .iload_n 2, 1)) rfl
theorem dX3_born_117 : decode cX3_born 117 = .ok (.i2l, 1) := decs_at bnd_x30_19 21 (x := (117, .i2l, 1)) rfl
theorem dX3_born_118 : decode cX3_born 118 = .ok (.lastore, 1) := decs_at bnd_x30_19 22 (x := (118, .lastore, 1)) rfl
theorem dX3_born_119 : decode cX3_born 119 = .ok (.iload_n 3, 1) := decs_at bnd_x30_19 23 (x := (119, .iload_n 3, 1)) rfl
theorem dX3_born_120 : decode cX3_born 120 = .ok (.ireturn, 1) := by decide +kernel
set_option maxRecDepth 20000 in
theorem ggX3_make_X3_isSlot : GoodIn wsX3_make wsX3_isSlot := goodIn_r _ [7, 8, 9, 10, 6, 11] rfl (by decide +kernel)
set_option maxRecDepth 20000 in
theorem gX3_make_X3_isSlot : GoodIn wsX3_make (va_wsS RX3 84 yX3_isSlot wsX3_isSlot) := goodIn_app (goodIn_r _ [4, 5, 6] rfl (by decide +kernel)) ggX3_make_X3_isSlot
set_option maxRecDepth 20000 in
theorem ggX3_make_X3_in : GoodIn wsX3_make wsX3_in := goodIn_r _ [11] rfl (by decide +kernel)
set_option maxRecDepth 20000 in
theorem gX3_make_X3_in : GoodIn wsX3_make (va_wsS RX3 70 yX3_in wsX3_in) := goodIn_app (goodIn_r _ [9, 10, 6] rfl (by decide +kernel)) ggX3_make_X3_in
set_option maxRecDepth 20000 in
theorem ggX3_make_X3_lookWhatIsHeld : GoodIn wsX3_make wsX3_lookWhatIsHeld := goodIn_r _ [15, 16, 3, 17, 18, 19, 20, 21, 6, 22, 23, 24, 25, 32, 33, 34, 35, 36, 37, 38, 39, 40, 41, 42, 43, 44, 45, 46, 47, 48, 49, 50, 51, 52, 53, 54] rfl (by decide +kernel)
set_option maxRecDepth 20000 in
theorem gX3_make_X3_lookWhatIsHeld : GoodIn wsX3_make (wsV RX3 91 RX3 yX3_lookWhatIsHeld wsX3_lookWhatIsHeld) := goodIn_app (goodIn_r _ [12, 13, 14, 6] rfl (by decide +kernel)) ggX3_make_X3_lookWhatIsHeld
set_option maxRecDepth 20000 in
theorem ggX3_make_X3_born : GoodIn wsX3_make wsX3_born := goodIn_r _ [29, 16, 18, 19, 30, 31, 20, 21, 6, 22, 32, 33, 34, 35, 36, 37, 38, 39, 40, 41, 42, 43, 44, 45, 46, 47, 48, 49, 50, 51, 52, 53, 54] rfl (by decide +kernel)
set_option maxRecDepth 20000 in
theorem gX3_make_X3_born : GoodIn wsX3_make (wsV RX3 94 RX3 yX3_born wsX3_born) := goodIn_app (goodIn_r _ [26, 27, 28, 6] rfl (by decide +kernel)) ggX3_make_X3_born
theorem bnd_x30_20 : decs cX3_make [(0, .iload_n 1, 1), (1, .invokestatic 84, 3), (4, .ifCond .eq 15, 3), (7, .iload_n 2, 1), (8, .i2l, 1), (9, .lconst 0, 1), (10, .ldc2_w 87, 3), (13, .invokestatic 70, 3), (16, .ifCond .ne 5, 3), (19, .iconst (-1), 1), (20, .ireturn, 1), (21, .iload_n 2, 1), (22, .iconst 2, 1), (23, .if_icmp .ne 18, 3), (26, .iload_n 3, 1), (27, .i2l, 1), (28, .lconst 0, 1), (29, .ldc2_w 89, 3), (32, .invokestatic 70, 3), (35, .ifCond .ne 6, 3), (38, .bipush (-18), 2), (40, .ireturn, 1), (41, .aload_n 0, 1), (42, .invokevirtual 91, 3)] = true := by decide +kernel
theorem dX3_make_0 : decode cX3_make 0 = .ok (.iload_n 1, 1) := decs_at bnd_x30_20 0 (x := (0, .iload_n 1, 1)) rfl
theorem dX3_make_1 : decode cX3_make 1 = .ok (.invokestatic 84, 3) := decs_at bnd_x30_20 1 (x := (1, .invokestatic 84, 3)) rfl
theorem dX3_make_4 : decode cX3_make 4 = .ok (.ifCond .eq 15, 3) := decs_at bnd_x30_20 2 (x := (4, .ifCond .eq 15, 3)) rfl
theorem dX3_make_7 : decode cX3_make 7 = .ok (.iload_n 2, 1) := decs_at bnd_x30_20 3 (x := (7, .iload_n 2, 1)) rfl
theorem dX3_make_8 : decode cX3_make 8 = .ok (.i2l, 1) := decs_at bnd_x30_20 4 (x := (8, .i2l, 1)) rfl
theorem dX3_make_9 : decode cX3_make 9 = .ok (.lconst 0, 1) := decs_at bnd_x30_20 5 (x := (9, .lconst 0, 1)) rfl
theorem dX3_make_10 : decode cX3_make 10 = .ok (.ldc2_w 87, 3) := decs_at bnd_x30_20 6 (x := (10, .ldc2_w 87, 3)) rfl
theorem dX3_make_13 : decode cX3_make 13 = .ok (.invokestatic 70, 3) := decs_at bnd_x30_20 7 (x := (13, .invokestatic 70, 3)) rfl
theorem dX3_make_16 : decode cX3_make 16 = .ok (.ifCond .ne 5, 3) := decs_at bnd_x30_20 8 (x := (16, .ifCond .ne 5, 3)) rfl
theorem dX3_make_19 : decode cX3_make 19 = .ok (.iconst (-1), 1) := decs_at bnd_x30_20 9 (x := (19, .iconst (-1), 1)) rfl
theorem dX3_make_20 : decode cX3_make 20 = .ok (.ireturn, 1) := decs_at bnd_x30_20 10 (x := (20, .ireturn, 1)) rfl
theorem dX3_make_21 : decode cX3_make 21 = .ok (.iload_n 2, 1) := decs_at bnd_x30_20 11 (x := (21, .iload_n 2, 1)) rfl
theorem dX3_make_22 : decode cX3_make 22 = .ok (.iconst 2, 1) := decs_at bnd_x30_20 12 (x := (22, .iconst 2, 1)) rfl
theorem dX3_make_23 : decode cX3_make 23 = .ok (.if_icmp .ne 18, 3) := decs_at bnd_x30_20 13 (x := (23, .if_icmp .ne 18, 3)) rfl
theorem dX3_make_26 : decode cX3_make 26 = .ok (.iload_n 3, 1) := decs_at bnd_x30_20 14 (x := (26, .iload_n 3, 1)) rfl
theorem dX3_make_27 : decode cX3_make 27 = .ok (.i2l, 1) := decs_at bnd_x30_20 15 (x := (27, .i2l, 1)) rfl
theorem dX3_make_28 : decode cX3_make 28 = .ok (.lconst 0, 1) := decs_at bnd_x30_20 16 (x := (28, .lconst 0, 1)) rfl
theorem dX3_make_29 : decode cX3_make 29 = .ok (.ldc2_w 89, 3) := decs_at bnd_x30_20 17 (x := (29, .ldc2_w 89, 3)) rfl
theorem dX3_make_32 : decode cX3_make 32 = .ok (.invokestatic 70, 3) := decs_at bnd_x30_20 18 (x := (32, .invokestatic 70, 3)) rfl
theorem dX3_make_35 : decode cX3_make 35 = .ok (.ifCond .ne 6, 3) := decs_at bnd_x30_20 19 (x := (35, .ifCond .ne 6, 3)) rfl
theorem dX3_make_38 : decode cX3_make 38 = .ok (.bipush (-18), 2) := decs_at bnd_x30_20 20 (x := (38, .bipush (-18), 2)) rfl
theorem dX3_make_40 : decode cX3_make 40 = .ok (.ireturn, 1) := decs_at bnd_x30_20 21 (x := (40, .ireturn, 1)) rfl
theorem dX3_make_41 : decode cX3_make 41 = .ok (.aload_n 0, 1) := decs_at bnd_x30_20 22 (x := (41, .aload_n 0, 1)) rfl
theorem dX3_make_42 : decode cX3_make 42 = .ok (.invokevirtual 91, 3) := decs_at bnd_x30_20 23 (x := (42, .invokevirtual 91, 3)) rfl
theorem bnd_x30_21 : decs cX3_make [(45, .aload_n 0, 1), (46, .getfield 7, 3), (49, .iload_n 1, 1), (50, .aload_n 0, 1), (51, .iload_n 2, 1), (52, .iload_n 3, 1), (53, .invokevirtual 94, 3), (56, .iastore, 1), (57, .iconst 1, 1), (58, .ireturn, 1)] = true := by decide +kernel
theorem dX3_make_45 : decode cX3_make 45 = .ok (.aload_n 0, 1) := decs_at bnd_x30_21 0 (x := (45, .aload_n 0, 1)) rfl
theorem dX3_make_46 : decode cX3_make 46 = .ok (.getfield 7, 3) := decs_at bnd_x30_21 1 (x := (46, .getfield 7, 3)) rfl
theorem dX3_make_49 : decode cX3_make 49 = .ok (.iload_n 1, 1) := decs_at bnd_x30_21 2 (x := (49, .iload_n 1, 1)) rfl
theorem dX3_make_50 : decode cX3_make 50 = .ok (.aload_n 0, 1) := decs_at bnd_x30_21 3 (x := (50, .aload_n 0, 1)) rfl
theorem dX3_make_51 : decode cX3_make 51 = .ok (.iload_n 2, 1) := decs_at bnd_x30_21 4 (x := (51, .iload_n 2, 1)) rfl
theorem dX3_make_52 : decode cX3_make 52 = .ok (.iload_n 3, 1) := decs_at bnd_x30_21 5 (x := (52, .iload_n 3, 1)) rfl
theorem dX3_make_53 : decode cX3_make 53 = .ok (.invokevirtual 94, 3) := decs_at bnd_x30_21 6 (x := (53, .invokevirtual 94, 3)) rfl
theorem dX3_make_56 : decode cX3_make 56 = .ok (.iastore, 1) := decs_at bnd_x30_21 7 (x := (56, .iastore, 1)) rfl
theorem dX3_make_57 : decode cX3_make 57 = .ok (.iconst 1, 1) := decs_at bnd_x30_21 8 (x := (57, .iconst 1, 1)) rfl
theorem dX3_make_58 : decode cX3_make 58 = .ok (.ireturn, 1) := decs_at bnd_x30_21 9 (x := (58, .ireturn, 1)) rfl
set_option maxRecDepth 20000 in
theorem ggX3_clear_X3_isSlot : GoodIn wsX3_clear wsX3_isSlot := goodIn_r _ [5, 6, 7, 8, 4, 9] rfl (by decide +kernel)
set_option maxRecDepth 20000 in
theorem gX3_clear_X3_isSlot : GoodIn wsX3_clear (va_wsS RX3 84 yX3_isSlot wsX3_isSlot) := goodIn_app (goodIn_r _ [2, 3, 4] rfl (by decide +kernel)) ggX3_clear_X3_isSlot
theorem bnd_x30_22 : decs cX3_clear [(0, .iload_n 1, 1), (1, .invokestatic 84, 3), (4, .ifCond .ne 5, 3), (7, .iconst (-1), 1), (8, .ireturn, 1), (9, .aload_n 0, 1), (10, .getfield 7, 3), (13, .iload_n 1, 1), (14, .iaload, 1), (15, .iconst (-1), 1), (16, .if_icmp .ne 7, 3), (19, .iconst 0, 1), (20, .goto 4, 3), (23, .iconst 1, 1), (24, .istore_n 2, 1), (25, .aload_n 0, 1), (26, .getfield 7, 3), (29, .iload_n 1, 1), (30, .iconst (-1), 1), (31, .iastore, 1), (32, .iload_n 2, 1), (33, .ireturn, 1)] = true := by decide +kernel
theorem dX3_clear_0 : decode cX3_clear 0 = .ok (.iload_n 1, 1) := decs_at bnd_x30_22 0 (x := (0, .iload_n 1, 1)) rfl
theorem dX3_clear_1 : decode cX3_clear 1 = .ok (.invokestatic 84, 3) := decs_at bnd_x30_22 1 (x := (1, .invokestatic 84, 3)) rfl
theorem dX3_clear_4 : decode cX3_clear 4 = .ok (.ifCond .ne 5, 3) := decs_at bnd_x30_22 2 (x := (4, .ifCond .ne 5, 3)) rfl
theorem dX3_clear_7 : decode cX3_clear 7 = .ok (.iconst (-1), 1) := decs_at bnd_x30_22 3 (x := (7, .iconst (-1), 1)) rfl
theorem dX3_clear_8 : decode cX3_clear 8 = .ok (.ireturn, 1) := decs_at bnd_x30_22 4 (x := (8, .ireturn, 1)) rfl
theorem dX3_clear_9 : decode cX3_clear 9 = .ok (.aload_n 0, 1) := decs_at bnd_x30_22 5 (x := (9, .aload_n 0, 1)) rfl
theorem dX3_clear_10 : decode cX3_clear 10 = .ok (.getfield 7, 3) := decs_at bnd_x30_22 6 (x := (10, .getfield 7, 3)) rfl
theorem dX3_clear_13 : decode cX3_clear 13 = .ok (.iload_n 1, 1) := decs_at bnd_x30_22 7 (x := (13, .iload_n 1, 1)) rfl
theorem dX3_clear_14 : decode cX3_clear 14 = .ok (.iaload, 1) := decs_at bnd_x30_22 8 (x := (14, .iaload, 1)) rfl
theorem dX3_clear_15 : decode cX3_clear 15 = .ok (.iconst (-1), 1) := decs_at bnd_x30_22 9 (x := (15, .iconst (-1), 1)) rfl
theorem dX3_clear_16 : decode cX3_clear 16 = .ok (.if_icmp .ne 7, 3) := decs_at bnd_x30_22 10 (x := (16, .if_icmp .ne 7, 3)) rfl
theorem dX3_clear_19 : decode cX3_clear 19 = .ok (.iconst 0, 1) := decs_at bnd_x30_22 11 (x := (19, .iconst 0, 1)) rfl
theorem dX3_clear_20 : decode cX3_clear 20 = .ok (.goto 4, 3) := decs_at bnd_x30_22 12 (x := (20, .goto 4, 3)) rfl
theorem dX3_clear_23 : decode cX3_clear 23 = .ok (.iconst 1, 1) := decs_at bnd_x30_22 13 (x := (23, .iconst 1, 1)) rfl
theorem dX3_clear_24 : decode cX3_clear 24 = .ok (.istore_n 2, 1) := decs_at bnd_x30_22 14 (x := (24, .istore_n 2, 1)) rfl
theorem dX3_clear_25 : decode cX3_clear 25 = .ok (.aload_n 0, 1) := decs_at bnd_x30_22 15 (x := (25, .aload_n 0, 1)) rfl
theorem dX3_clear_26 : decode cX3_clear 26 = .ok (.getfield 7, 3) := decs_at bnd_x30_22 16 (x := (26, .getfield 7, 3)) rfl
theorem dX3_clear_29 : decode cX3_clear 29 = .ok (.iload_n 1, 1) := decs_at bnd_x30_22 17 (x := (29, .iload_n 1, 1)) rfl
theorem dX3_clear_30 : decode cX3_clear 30 = .ok (.iconst (-1), 1) := decs_at bnd_x30_22 18 (x := (30, .iconst (-1), 1)) rfl
theorem dX3_clear_31 : decode cX3_clear 31 = .ok (.iastore, 1) := decs_at bnd_x30_22 19 (x := (31, .iastore, 1)) rfl
theorem dX3_clear_32 : decode cX3_clear 32 = .ok (.iload_n 2, 1) := decs_at bnd_x30_22 20 (x := (32, .iload_n 2, 1)) rfl
theorem dX3_clear_33 : decode cX3_clear 33 = .ok (.ireturn, 1) := decs_at bnd_x30_22 21 (x := (33, .ireturn, 1)) rfl
set_option maxRecDepth 20000 in
theorem ggX3_share_X3_isSlot : GoodIn wsX3_share wsX3_isSlot := goodIn_r _ [5, 6, 7, 8, 4, 9] rfl (by decide +kernel)
set_option maxRecDepth 20000 in
theorem gX3_share_X3_isSlot : GoodIn wsX3_share (va_wsS RX3 84 yX3_isSlot wsX3_isSlot) := goodIn_app (goodIn_r _ [2, 3, 4] rfl (by decide +kernel)) ggX3_share_X3_isSlot
theorem bnd_x30_23 : decs cX3_share [(0, .iload_n 1, 1), (1, .invokestatic 84, 3), (4, .ifCond .eq 10, 3), (7, .iload_n 2, 1), (8, .invokestatic 84, 3), (11, .ifCond .ne 5, 3), (14, .iconst (-1), 1), (15, .ireturn, 1), (16, .aload_n 0, 1), (17, .getfield 7, 3), (20, .iload_n 2, 1), (21, .aload_n 0, 1), (22, .getfield 7, 3), (25, .iload_n 1, 1), (26, .iaload, 1), (27, .iastore, 1), (28, .iconst 1, 1), (29, .ireturn, 1)] = true := by decide +kernel
theorem dX3_share_0 : decode cX3_share 0 = .ok (.iload_n 1, 1) := decs_at bnd_x30_23 0 (x := (0, .iload_n 1, 1)) rfl
theorem dX3_share_1 : decode cX3_share 1 = .ok (.invokestatic 84, 3) := decs_at bnd_x30_23 1 (x := (1, .invokestatic 84, 3)) rfl
theorem dX3_share_4 : decode cX3_share 4 = .ok (.ifCond .eq 10, 3) := decs_at bnd_x30_23 2 (x := (4, .ifCond .eq 10, 3)) rfl
theorem dX3_share_7 : decode cX3_share 7 = .ok (.iload_n 2, 1) := decs_at bnd_x30_23 3 (x := (7, .iload_n 2, 1)) rfl
theorem dX3_share_8 : decode cX3_share 8 = .ok (.invokestatic 84, 3) := decs_at bnd_x30_23 4 (x := (8, .invokestatic 84, 3)) rfl
theorem dX3_share_11 : decode cX3_share 11 = .ok (.ifCond .ne 5, 3) := decs_at bnd_x30_23 5 (x := (11, .ifCond .ne 5, 3)) rfl
theorem dX3_share_14 : decode cX3_share 14 = .ok (.iconst (-1), 1) := decs_at bnd_x30_23 6 (x := (14, .iconst (-1), 1)) rfl
theorem dX3_share_15 : decode cX3_share 15 = .ok (.ireturn, 1) := decs_at bnd_x30_23 7 (x := (15, .ireturn, 1)) rfl
theorem dX3_share_16 : decode cX3_share 16 = .ok (.aload_n 0, 1) := decs_at bnd_x30_23 8 (x := (16, .aload_n 0, 1)) rfl
theorem dX3_share_17 : decode cX3_share 17 = .ok (.getfield 7, 3) := decs_at bnd_x30_23 9 (x := (17, .getfield 7, 3)) rfl
theorem dX3_share_20 : decode cX3_share 20 = .ok (.iload_n 2, 1) := decs_at bnd_x30_23 10 (x := (20, .iload_n 2, 1)) rfl
theorem dX3_share_21 : decode cX3_share 21 = .ok (.aload_n 0, 1) := decs_at bnd_x30_23 11 (x := (21, .aload_n 0, 1)) rfl
theorem dX3_share_22 : decode cX3_share 22 = .ok (.getfield 7, 3) := decs_at bnd_x30_23 12 (x := (22, .getfield 7, 3)) rfl
theorem dX3_share_25 : decode cX3_share 25 = .ok (.iload_n 1, 1) := decs_at bnd_x30_23 13 (x := (25, .iload_n 1, 1)) rfl
theorem dX3_share_26 : decode cX3_share 26 = .ok (.iaload, 1) := decs_at bnd_x30_23 14 (x := (26, .iaload, 1)) rfl
theorem dX3_share_27 : decode cX3_share 27 = .ok (.iastore, 1) := decs_at bnd_x30_23 15 (x := (27, .iastore, 1)) rfl
theorem dX3_share_28 : decode cX3_share 28 = .ok (.iconst 1, 1) := decs_at bnd_x30_23 16 (x := (28, .iconst 1, 1)) rfl
theorem dX3_share_29 : decode cX3_share 29 = .ok (.ireturn, 1) := decs_at bnd_x30_23 17 (x := (29, .ireturn, 1)) rfl
set_option maxRecDepth 20000 in
theorem ggX3_same_X3_isSlot : GoodIn wsX3_same wsX3_isSlot := goodIn_r _ [5, 6, 7, 8, 4, 9] rfl (by decide +kernel)
set_option maxRecDepth 20000 in
theorem gX3_same_X3_isSlot : GoodIn wsX3_same (va_wsS RX3 84 yX3_isSlot wsX3_isSlot) := goodIn_app (goodIn_r _ [2, 3, 4] rfl (by decide +kernel)) ggX3_same_X3_isSlot
theorem bnd_x30_24 : decs cX3_same [(0, .iload_n 1, 1), (1, .invokestatic 84, 3), (4, .ifCond .eq 10, 3), (7, .iload_n 2, 1), (8, .invokestatic 84, 3), (11, .ifCond .ne 7, 3), (14, .iconst (-1), 1), (15, .goto 23, 3), (18, .aload_n 0, 1), (19, .getfield 7, 3), (22, .iload_n 1, 1), (23, .iaload, 1), (24, .aload_n 0, 1), (25, .getfield 7, 3), (28, .iload_n 2, 1), (29, .iaload, 1), (30, .if_icmp .ne 7, 3), (33, .iconst 1, 1), (34, .goto 4, 3), (37, .iconst 0, 1), (38, .ireturn, 1)] = true := by decide +kernel
theorem dX3_same_0 : decode cX3_same 0 = .ok (.iload_n 1, 1) := decs_at bnd_x30_24 0 (x := (0, .iload_n 1, 1)) rfl
theorem dX3_same_1 : decode cX3_same 1 = .ok (.invokestatic 84, 3) := decs_at bnd_x30_24 1 (x := (1, .invokestatic 84, 3)) rfl
theorem dX3_same_4 : decode cX3_same 4 = .ok (.ifCond .eq 10, 3) := decs_at bnd_x30_24 2 (x := (4, .ifCond .eq 10, 3)) rfl
theorem dX3_same_7 : decode cX3_same 7 = .ok (.iload_n 2, 1) := decs_at bnd_x30_24 3 (x := (7, .iload_n 2, 1)) rfl
theorem dX3_same_8 : decode cX3_same 8 = .ok (.invokestatic 84, 3) := decs_at bnd_x30_24 4 (x := (8, .invokestatic 84, 3)) rfl
theorem dX3_same_11 : decode cX3_same 11 = .ok (.ifCond .ne 7, 3) := decs_at bnd_x30_24 5 (x := (11, .ifCond .ne 7, 3)) rfl
theorem dX3_same_14 : decode cX3_same 14 = .ok (.iconst (-1), 1) := decs_at bnd_x30_24 6 (x := (14, .iconst (-1), 1)) rfl
theorem dX3_same_15 : decode cX3_same 15 = .ok (.goto 23, 3) := decs_at bnd_x30_24 7 (x := (15, .goto 23, 3)) rfl
theorem dX3_same_18 : decode cX3_same 18 = .ok (.aload_n 0, 1) := decs_at bnd_x30_24 8 (x := (18, .aload_n 0, 1)) rfl
theorem dX3_same_19 : decode cX3_same 19 = .ok (.getfield 7, 3) := decs_at bnd_x30_24 9 (x := (19, .getfield 7, 3)) rfl
theorem dX3_same_22 : decode cX3_same 22 = .ok (.iload_n 1, 1) := decs_at bnd_x30_24 10 (x := (22, .iload_n 1, 1)) rfl
theorem dX3_same_23 : decode cX3_same 23 = .ok (.iaload, 1) := decs_at bnd_x30_24 11 (x := (23, .iaload, 1)) rfl
theorem dX3_same_24 : decode cX3_same 24 = .ok (.aload_n 0, 1) := decs_at bnd_x30_24 12 (x := (24, .aload_n 0, 1)) rfl
theorem dX3_same_25 : decode cX3_same 25 = .ok (.getfield 7, 3) := decs_at bnd_x30_24 13 (x := (25, .getfield 7, 3)) rfl
theorem dX3_same_28 : decode cX3_same 28 = .ok (.iload_n 2, 1) := decs_at bnd_x30_24 14 (x := (28, .iload_n 2, 1)) rfl
theorem dX3_same_29 : decode cX3_same 29 = .ok (.iaload, 1) := decs_at bnd_x30_24 15 (x := (29, .iaload, 1)) rfl
theorem dX3_same_30 : decode cX3_same 30 = .ok (.if_icmp .ne 7, 3) := decs_at bnd_x30_24 16 (x := (30, .if_icmp .ne 7, 3)) rfl
theorem dX3_same_33 : decode cX3_same 33 = .ok (.iconst 1, 1) := decs_at bnd_x30_24 17 (x := (33, .iconst 1, 1)) rfl
theorem dX3_same_34 : decode cX3_same 34 = .ok (.goto 4, 3) := decs_at bnd_x30_24 18 (x := (34, .goto 4, 3)) rfl
theorem dX3_same_37 : decode cX3_same 37 = .ok (.iconst 0, 1) := decs_at bnd_x30_24 19 (x := (37, .iconst 0, 1)) rfl
theorem dX3_same_38 : decode cX3_same 38 = .ok (.ireturn, 1) := decs_at bnd_x30_24 20 (x := (38, .ireturn, 1)) rfl
set_option maxRecDepth 20000 in
theorem ggX3_cls_X3_isSlot : GoodIn wsX3_cls wsX3_isSlot := goodIn_r _ [6, 7, 8, 9, 5, 10] rfl (by decide +kernel)
set_option maxRecDepth 20000 in
theorem gX3_cls_X3_isSlot : GoodIn wsX3_cls (va_wsS RX3 84 yX3_isSlot wsX3_isSlot) := goodIn_app (goodIn_r _ [3, 4, 5] rfl (by decide +kernel)) ggX3_cls_X3_isSlot
theorem bnd_x30_25 : decs cX3_cls [(0, .iload_n 1, 1), (1, .invokestatic 84, 3), (4, .ifCond .ne 7, 3), (7, .iconst (-1), 1), (8, .goto 29, 3), (11, .aload_n 0, 1), (12, .getfield 7, 3), (15, .iload_n 1, 1), (16, .iaload, 1), (17, .iconst (-1), 1), (18, .if_icmp .ne 8, 3), (21, .bipush (-4), 2), (23, .goto 14, 3), (26, .aload_n 0, 1), (27, .getfield 13, 3), (30, .aload_n 0, 1), (31, .getfield 7, 3), (34, .iload_n 1, 1), (35, .iaload, 1), (36, .iaload, 1), (37, .ireturn, 1)] = true := by decide +kernel
theorem dX3_cls_0 : decode cX3_cls 0 = .ok (.iload_n 1, 1) := decs_at bnd_x30_25 0 (x := (0, .iload_n 1, 1)) rfl
theorem dX3_cls_1 : decode cX3_cls 1 = .ok (.invokestatic 84, 3) := decs_at bnd_x30_25 1 (x := (1, .invokestatic 84, 3)) rfl
theorem dX3_cls_4 : decode cX3_cls 4 = .ok (.ifCond .ne 7, 3) := decs_at bnd_x30_25 2 (x := (4, .ifCond .ne 7, 3)) rfl
theorem dX3_cls_7 : decode cX3_cls 7 = .ok (.iconst (-1), 1) := decs_at bnd_x30_25 3 (x := (7, .iconst (-1), 1)) rfl
theorem dX3_cls_8 : decode cX3_cls 8 = .ok (.goto 29, 3) := decs_at bnd_x30_25 4 (x := (8, .goto 29, 3)) rfl
theorem dX3_cls_11 : decode cX3_cls 11 = .ok (.aload_n 0, 1) := decs_at bnd_x30_25 5 (x := (11, .aload_n 0, 1)) rfl
theorem dX3_cls_12 : decode cX3_cls 12 = .ok (.getfield 7, 3) := decs_at bnd_x30_25 6 (x := (12, .getfield 7, 3)) rfl
theorem dX3_cls_15 : decode cX3_cls 15 = .ok (.iload_n 1, 1) := decs_at bnd_x30_25 7 (x := (15, .iload_n 1, 1)) rfl
theorem dX3_cls_16 : decode cX3_cls 16 = .ok (.iaload, 1) := decs_at bnd_x30_25 8 (x := (16, .iaload, 1)) rfl
theorem dX3_cls_17 : decode cX3_cls 17 = .ok (.iconst (-1), 1) := decs_at bnd_x30_25 9 (x := (17, .iconst (-1), 1)) rfl
theorem dX3_cls_18 : decode cX3_cls 18 = .ok (.if_icmp .ne 8, 3) := decs_at bnd_x30_25 10 (x := (18, .if_icmp .ne 8, 3)) rfl
theorem dX3_cls_21 : decode cX3_cls 21 = .ok (.bipush (-4), 2) := decs_at bnd_x30_25 11 (x := (21, .bipush (-4), 2)) rfl
theorem dX3_cls_23 : decode cX3_cls 23 = .ok (.goto 14, 3) := decs_at bnd_x30_25 12 (x := (23, .goto 14, 3)) rfl
theorem dX3_cls_26 : decode cX3_cls 26 = .ok (.aload_n 0, 1) := decs_at bnd_x30_25 13 (x := (26, .aload_n 0, 1)) rfl
theorem dX3_cls_27 : decode cX3_cls 27 = .ok (.getfield 13, 3) := decs_at bnd_x30_25 14 (x := (27, .getfield 13, 3)) rfl
theorem dX3_cls_30 : decode cX3_cls 30 = .ok (.aload_n 0, 1) := decs_at bnd_x30_25 15 (x := (30, .aload_n 0, 1)) rfl
theorem dX3_cls_31 : decode cX3_cls 31 = .ok (.getfield 7, 3) := decs_at bnd_x30_25 16 (x := (31, .getfield 7, 3)) rfl
theorem dX3_cls_34 : decode cX3_cls 34 = .ok (.iload_n 1, 1) := decs_at bnd_x30_25 17 (x := (34, .iload_n 1, 1)) rfl
theorem dX3_cls_35 : decode cX3_cls 35 = .ok (.iaload, 1) := decs_at bnd_x30_25 18 (x := (35, .iaload, 1)) rfl
theorem dX3_cls_36 : decode cX3_cls 36 = .ok (.iaload, 1) := decs_at bnd_x30_25 19 (x := (36, .iaload, 1)) rfl
theorem dX3_cls_37 : decode cX3_cls 37 = .ok (.ireturn, 1) := decs_at bnd_x30_25 20 (x := (37, .ireturn, 1)) rfl
set_option maxRecDepth 20000 in
theorem ggX3_is_X3_isSlot : GoodIn wsX3_is wsX3_isSlot := goodIn_r _ [7, 8, 9, 10, 6, 11] rfl (by decide +kernel)
set_option maxRecDepth 20000 in
theorem gX3_is_X3_isSlot : GoodIn wsX3_is (va_wsS RX3 84 yX3_isSlot wsX3_isSlot) := goodIn_app (goodIn_r _ [4, 5, 6] rfl (by decide +kernel)) ggX3_is_X3_isSlot
set_option maxRecDepth 20000 in
theorem ggX3_is_X3_in : GoodIn wsX3_is wsX3_in := goodIn_r _ [11] rfl (by decide +kernel)
set_option maxRecDepth 20000 in
theorem gX3_is_X3_in : GoodIn wsX3_is (va_wsS RX3 70 yX3_in wsX3_in) := goodIn_app (goodIn_r _ [9, 10, 6] rfl (by decide +kernel)) ggX3_is_X3_in
set_option maxRecDepth 20000 in
theorem ggX3_is_X3_isBelow : GoodIn wsX3_is wsX3_isBelow := goodIn_r _ [14] rfl (by decide +kernel)
set_option maxRecDepth 20000 in
theorem gX3_is_X3_isBelow : GoodIn wsX3_is (va_wsS RX3 100 yX3_isBelow wsX3_isBelow) := goodIn_app (goodIn_r _ [12, 13, 6] rfl (by decide +kernel)) ggX3_is_X3_isBelow
theorem bnd_x30_26 : decs cX3_is [(0, .iload_n 1, 1), (1, .invokestatic 84, 3), (4, .ifCond .eq 15, 3), (7, .iload_n 2, 1), (8, .i2l, 1), (9, .lconst 0, 1), (10, .ldc2_w 98, 3), (13, .invokestatic 70, 3), (16, .ifCond .ne 5, 3), (19, .iconst (-1), 1), (20, .ireturn, 1), (21, .aload_n 0, 1), (22, .getfield 7, 3), (25, .iload_n 1, 1), (26, .iaload, 1), (27, .iconst (-1), 1), (28, .if_icmp .eq 25, 3), (31, .aload_n 0, 1), (32, .getfield 13, 3), (35, .aload_n 0, 1), (36, .getfield 7, 3), (39, .iload_n 1, 1), (40, .iaload, 1), (41, .iaload, 1)] = true := by decide +kernel
theorem dX3_is_0 : decode cX3_is 0 = .ok (.iload_n 1, 1) := decs_at bnd_x30_26 0 (x := (0, .iload_n 1, 1)) rfl
theorem dX3_is_1 : decode cX3_is 1 = .ok (.invokestatic 84, 3) := decs_at bnd_x30_26 1 (x := (1, .invokestatic 84, 3)) rfl
theorem dX3_is_4 : decode cX3_is 4 = .ok (.ifCond .eq 15, 3) := decs_at bnd_x30_26 2 (x := (4, .ifCond .eq 15, 3)) rfl
theorem dX3_is_7 : decode cX3_is 7 = .ok (.iload_n 2, 1) := decs_at bnd_x30_26 3 (x := (7, .iload_n 2, 1)) rfl
theorem dX3_is_8 : decode cX3_is 8 = .ok (.i2l, 1) := decs_at bnd_x30_26 4 (x := (8, .i2l, 1)) rfl
theorem dX3_is_9 : decode cX3_is 9 = .ok (.lconst 0, 1) := decs_at bnd_x30_26 5 (x := (9, .lconst 0, 1)) rfl
theorem dX3_is_10 : decode cX3_is 10 = .ok (.ldc2_w 98, 3) := decs_at bnd_x30_26 6 (x := (10, .ldc2_w 98, 3)) rfl
theorem dX3_is_13 : decode cX3_is 13 = .ok (.invokestatic 70, 3) := decs_at bnd_x30_26 7 (x := (13, .invokestatic 70, 3)) rfl
theorem dX3_is_16 : decode cX3_is 16 = .ok (.ifCond .ne 5, 3) := decs_at bnd_x30_26 8 (x := (16, .ifCond .ne 5, 3)) rfl
theorem dX3_is_19 : decode cX3_is 19 = .ok (.iconst (-1), 1) := decs_at bnd_x30_26 9 (x := (19, .iconst (-1), 1)) rfl
theorem dX3_is_20 : decode cX3_is 20 = .ok (.ireturn, 1) := decs_at bnd_x30_26 10 (x := (20, .ireturn, 1)) rfl
theorem dX3_is_21 : decode cX3_is 21 = .ok (.aload_n 0, 1) := decs_at bnd_x30_26 11 (x := (21, .aload_n 0, 1)) rfl
theorem dX3_is_22 : decode cX3_is 22 = .ok (.getfield 7, 3) := decs_at bnd_x30_26 12 (x := (22, .getfield 7, 3)) rfl
theorem dX3_is_25 : decode cX3_is 25 = .ok (.iload_n 1, 1) := decs_at bnd_x30_26 13 (x := (25, .iload_n 1, 1)) rfl
theorem dX3_is_26 : decode cX3_is 26 = .ok (.iaload, 1) := decs_at bnd_x30_26 14 (x := (26, .iaload, 1)) rfl
theorem dX3_is_27 : decode cX3_is 27 = .ok (.iconst (-1), 1) := decs_at bnd_x30_26 15 (x := (27, .iconst (-1), 1)) rfl
theorem dX3_is_28 : decode cX3_is 28 = .ok (.if_icmp .eq 25, 3) := decs_at bnd_x30_26 16 (x := (28, .if_icmp .eq 25, 3)) rfl
theorem dX3_is_31 : decode cX3_is 31 = .ok (.aload_n 0, 1) := decs_at bnd_x30_26 17 (x := (31, .aload_n 0, 1)) rfl
theorem dX3_is_32 : decode cX3_is 32 = .ok (.getfield 13, 3) := decs_at bnd_x30_26 18 (x := (32, .getfield 13, 3)) rfl
theorem dX3_is_35 : decode cX3_is 35 = .ok (.aload_n 0, 1) := decs_at bnd_x30_26 19 (x := (35, .aload_n 0, 1)) rfl
theorem dX3_is_36 : decode cX3_is 36 = .ok (.getfield 7, 3) := decs_at bnd_x30_26 20 (x := (36, .getfield 7, 3)) rfl
theorem dX3_is_39 : decode cX3_is 39 = .ok (.iload_n 1, 1) := decs_at bnd_x30_26 21 (x := (39, .iload_n 1, 1)) rfl
theorem dX3_is_40 : decode cX3_is 40 = .ok (.iaload, 1) := decs_at bnd_x30_26 22 (x := (40, .iaload, 1)) rfl
theorem dX3_is_41 : decode cX3_is 41 = .ok (.iaload, 1) := decs_at bnd_x30_26 23 (x := (41, .iaload, 1)) rfl
theorem bnd_x30_27 : decs cX3_is [(42, .iload_n 2, 1), (43, .invokestatic 100, 3), (46, .ifCond .eq 7, 3), (49, .iconst 1, 1), (50, .goto 4, 3), (53, .iconst 0, 1), (54, .ireturn, 1)] = true := by decide +kernel
theorem dX3_is_42 : decode cX3_is 42 = .ok (.iload_n 2, 1) := decs_at bnd_x30_27 0 (x := (42, .iload_n 2, 1)) rfl
theorem dX3_is_43 : decode cX3_is 43 = .ok (.invokestatic 100, 3) := decs_at bnd_x30_27 1 (x := (43, .invokestatic 100, 3)) rfl
theorem dX3_is_46 : decode cX3_is 46 = .ok (.ifCond .eq 7, 3) := decs_at bnd_x30_27 2 (x := (46, .ifCond .eq 7, 3)) rfl
theorem dX3_is_49 : decode cX3_is 49 = .ok (.iconst 1, 1) := decs_at bnd_x30_27 3 (x := (49, .iconst 1, 1)) rfl
theorem dX3_is_50 : decode cX3_is 50 = .ok (.goto 4, 3) := decs_at bnd_x30_27 4 (x := (50, .goto 4, 3)) rfl
theorem dX3_is_53 : decode cX3_is 53 = .ok (.iconst 0, 1) := decs_at bnd_x30_27 5 (x := (53, .iconst 0, 1)) rfl
theorem dX3_is_54 : decode cX3_is 54 = .ok (.ireturn, 1) := decs_at bnd_x30_27 6 (x := (54, .ireturn, 1)) rfl
set_option maxRecDepth 20000 in
theorem ggX3_isPlain_X3_in : GoodIn wsX3_isPlain wsX3_in := goodIn_r _ [7] rfl (by decide +kernel)
set_option maxRecDepth 20000 in
theorem gX3_isPlain_X3_in : GoodIn wsX3_isPlain (va_wsS RX3 70 yX3_in wsX3_in) := goodIn_app (goodIn_r _ [4, 5, 6] rfl (by decide +kernel)) ggX3_isPlain_X3_in
theorem bnd_x30_28 : decs cX3_isPlain [(0, .iload_n 0, 1), (1, .i2l, 1), (2, .lconst 0, 1), (3, .ldc2_w 103, 3), (6, .invokestatic 70, 3), (9, .ifCond .ne 29, 3), (12, .iload_n 0, 1), (13, .bipush 10, 2), (15, .if_icmp .eq 23, 3), (18, .iload_n 0, 1), (19, .i2l, 1), (20, .ldc2_w 105, 3), (23, .ldc2_w 107, 3), (26, .invokestatic 70, 3), (29, .ifCond .ne 9, 3), (32, .iload_n 0, 1), (33, .bipush 16, 2), (35, .if_icmp .ne 7, 3), (38, .iconst 1, 1), (39, .goto 4, 3), (42, .iconst 0, 1), (43, .ireturn, 1)] = true := by decide +kernel
theorem dX3_isPlain_0 : decode cX3_isPlain 0 = .ok (.iload_n 0, 1) := decs_at bnd_x30_28 0 (x := (0, .iload_n 0, 1)) rfl
theorem dX3_isPlain_1 : decode cX3_isPlain 1 = .ok (.i2l, 1) := decs_at bnd_x30_28 1 (x := (1, .i2l, 1)) rfl
theorem dX3_isPlain_2 : decode cX3_isPlain 2 = .ok (.lconst 0, 1) := decs_at bnd_x30_28 2 (x := (2, .lconst 0, 1)) rfl
theorem dX3_isPlain_3 : decode cX3_isPlain 3 = .ok (.ldc2_w 103, 3) := decs_at bnd_x30_28 3 (x := (3, .ldc2_w 103, 3)) rfl
theorem dX3_isPlain_6 : decode cX3_isPlain 6 = .ok (.invokestatic 70, 3) := decs_at bnd_x30_28 4 (x := (6, .invokestatic 70, 3)) rfl
theorem dX3_isPlain_9 : decode cX3_isPlain 9 = .ok (.ifCond .ne 29, 3) := decs_at bnd_x30_28 5 (x := (9, .ifCond .ne 29, 3)) rfl
theorem dX3_isPlain_12 : decode cX3_isPlain 12 = .ok (.iload_n 0, 1) := decs_at bnd_x30_28 6 (x := (12, .iload_n 0, 1)) rfl
theorem dX3_isPlain_13 : decode cX3_isPlain 13 = .ok (.bipush 10, 2) := decs_at bnd_x30_28 7 (x := (13, .bipush 10, 2)) rfl
theorem dX3_isPlain_15 : decode cX3_isPlain 15 = .ok (.if_icmp .eq 23, 3) := decs_at bnd_x30_28 8 (x := (15, .if_icmp .eq 23, 3)) rfl
theorem dX3_isPlain_18 : decode cX3_isPlain 18 = .ok (.iload_n 0, 1) := decs_at bnd_x30_28 9 (x := (18, .iload_n 0, 1)) rfl
theorem dX3_isPlain_19 : decode cX3_isPlain 19 = .ok (.i2l, 1) := decs_at bnd_x30_28 10 (x := (19, .i2l, 1)) rfl
theorem dX3_isPlain_20 : decode cX3_isPlain 20 = .ok (.ldc2_w 105, 3) := decs_at bnd_x30_28 11 (x := (20, .ldc2_w 105, 3)) rfl
theorem dX3_isPlain_23 : decode cX3_isPlain 23 = .ok (.ldc2_w 107, 3) := decs_at bnd_x30_28 12 (x := (23, .ldc2_w 107, 3)) rfl
theorem dX3_isPlain_26 : decode cX3_isPlain 26 = .ok (.invokestatic 70, 3) := decs_at bnd_x30_28 13 (x := (26, .invokestatic 70, 3)) rfl
theorem dX3_isPlain_29 : decode cX3_isPlain 29 = .ok (.ifCond .ne 9, 3) := decs_at bnd_x30_28 14 (x := (29, .ifCond .ne 9, 3)) rfl
theorem dX3_isPlain_32 : decode cX3_isPlain 32 = .ok (.iload_n 0, 1) := decs_at bnd_x30_28 15 (x := (32, .iload_n 0, 1)) rfl
theorem dX3_isPlain_33 : decode cX3_isPlain 33 = .ok (.bipush 16, 2) := decs_at bnd_x30_28 16 (x := (33, .bipush 16, 2)) rfl
theorem dX3_isPlain_35 : decode cX3_isPlain 35 = .ok (.if_icmp .ne 7, 3) := decs_at bnd_x30_28 17 (x := (35, .if_icmp .ne 7, 3)) rfl
theorem dX3_isPlain_38 : decode cX3_isPlain 38 = .ok (.iconst 1, 1) := decs_at bnd_x30_28 18 (x := (38, .iconst 1, 1)) rfl
theorem dX3_isPlain_39 : decode cX3_isPlain 39 = .ok (.goto 4, 3) := decs_at bnd_x30_28 19 (x := (39, .goto 4, 3)) rfl
theorem dX3_isPlain_42 : decode cX3_isPlain 42 = .ok (.iconst 0, 1) := decs_at bnd_x30_28 20 (x := (42, .iconst 0, 1)) rfl
theorem dX3_isPlain_43 : decode cX3_isPlain 43 = .ok (.ireturn, 1) := decs_at bnd_x30_28 21 (x := (43, .ireturn, 1)) rfl
theorem bnd_x30_29 : decs cX3_valueOf [(0, .iload_n 0, 1), (1, .tableswitch 147 0 14 #[75, 79, 89, 99, 147, 105, 107, 127, 147, 147, 147, 147, 105, 147, 127], 75), (76, .lload_n 1, 1), (77, .lconst 1, 1), (78, .land, 1), (79, .lreturn, 1), (80, .lload_n 1, 1), (81, .l2i, 1), (82, .bipush 24, 2), (84, .ishl, 1), (85, .bipush 24, 2), (87, .ishr, 1), (88, .i2l, 1), (89, .lreturn, 1), (90, .lload_n 1, 1), (91, .l2i, 1), (92, .bipush 16, 2), (94, .ishl, 1), (95, .bipush 16, 2), (97, .ishr, 1), (98, .i2l, 1), (99, .lreturn, 1), (100, .lload_n 1, 1), (101, .ldc2_w 109, 3)] = true := by decide +kernel
theorem dX3_valueOf_0 : decode cX3_valueOf 0 = .ok (.iload_n 0, 1) := decs_at bnd_x30_29 0 (x := (0, .iload_n 0, 1)) rfl
theorem dX3_valueOf_1 : decode cX3_valueOf 1 = .ok (.tableswitch 147 0 14 #[75, 79, 89, 99, 147, 105, 107, 127, 147, 147, 147, 147, 105, 147, 127], 75) := decs_at bnd_x30_29 1 (x := (1, .tableswitch 147 0 14 #[75, 79, 89, 99, 147, 105, 107, 127, 147, 147, 147, 147, 105, 147, 127], 75)) rfl
theorem dX3_valueOf_76 : decode cX3_valueOf 76 = .ok (.lload_n 1, 1) := decs_at bnd_x30_29 2 (x := (76, .lload_n 1, 1)) rfl
theorem dX3_valueOf_77 : decode cX3_valueOf 77 = .ok (.lconst 1, 1) := decs_at bnd_x30_29 3 (x := (77, .lconst 1, 1)) rfl
theorem dX3_valueOf_78 : decode cX3_valueOf 78 = .ok (.land, 1) := decs_at bnd_x30_29 4 (x := (78, .land, 1)) rfl
theorem dX3_valueOf_79 : decode cX3_valueOf 79 = .ok (.lreturn, 1) := decs_at bnd_x30_29 5 (x := (79, .lreturn, 1)) rfl
theorem dX3_valueOf_80 : decode cX3_valueOf 80 = .ok (.lload_n 1, 1) := decs_at bnd_x30_29 6 (x := (80, .lload_n 1, 1)) rfl
theorem dX3_valueOf_81 : decode cX3_valueOf 81 = .ok (.l2i, 1) := decs_at bnd_x30_29 7 (x := (81, .l2i, 1)) rfl
theorem dX3_valueOf_82 : decode cX3_valueOf 82 = .ok (.bipush 24, 2) := decs_at bnd_x30_29 8 (x := (82, .bipush 24, 2)) rfl
theorem dX3_valueOf_84 : decode cX3_valueOf 84 = .ok (.ishl, 1) := decs_at bnd_x30_29 9 (x := (84, .ishl, 1)) rfl
theorem dX3_valueOf_85 : decode cX3_valueOf 85 = .ok (.bipush 24, 2) := decs_at bnd_x30_29 10 (x := (85, .bipush 24, 2)) rfl
theorem dX3_valueOf_87 : decode cX3_valueOf 87 = .ok (.ishr, 1) := decs_at bnd_x30_29 11 (x := (87, .ishr, 1)) rfl
theorem dX3_valueOf_88 : decode cX3_valueOf 88 = .ok (.i2l, 1) := decs_at bnd_x30_29 12 (x := (88, .i2l, 1)) rfl
theorem dX3_valueOf_89 : decode cX3_valueOf 89 = .ok (.lreturn, 1) := decs_at bnd_x30_29 13 (x := (89, .lreturn, 1)) rfl
theorem dX3_valueOf_90 : decode cX3_valueOf 90 = .ok (.lload_n 1, 1) := decs_at bnd_x30_29 14 (x := (90, .lload_n 1, 1)) rfl
theorem dX3_valueOf_91 : decode cX3_valueOf 91 = .ok (.l2i, 1) := decs_at bnd_x30_29 15 (x := (91, .l2i, 1)) rfl
theorem dX3_valueOf_92 : decode cX3_valueOf 92 = .ok (.bipush 16, 2) := decs_at bnd_x30_29 16 (x := (92, .bipush 16, 2)) rfl
theorem dX3_valueOf_94 : decode cX3_valueOf 94 = .ok (.ishl, 1) := decs_at bnd_x30_29 17 (x := (94, .ishl, 1)) rfl
theorem dX3_valueOf_95 : decode cX3_valueOf 95 = .ok (.bipush 16, 2) := decs_at bnd_x30_29 18 (x := (95, .bipush 16, 2)) rfl
theorem dX3_valueOf_97 : decode cX3_valueOf 97 = .ok (.ishr, 1) := decs_at bnd_x30_29 19 (x := (97, .ishr, 1)) rfl
theorem dX3_valueOf_98 : decode cX3_valueOf 98 = .ok (.i2l, 1) := decs_at bnd_x30_29 20 (x := (98, .i2l, 1)) rfl
theorem dX3_valueOf_99 : decode cX3_valueOf 99 = .ok (.lreturn, 1) := decs_at bnd_x30_29 21 (x := (99, .lreturn, 1)) rfl
theorem dX3_valueOf_100 : decode cX3_valueOf 100 = .ok (.lload_n 1, 1) := decs_at bnd_x30_29 22 (x := (100, .lload_n 1, 1)) rfl
theorem dX3_valueOf_101 : decode cX3_valueOf 101 = .ok (.ldc2_w 109, 3) := decs_at bnd_x30_29 23 (x := (101, .ldc2_w 109, 3)) rfl
theorem bnd_x30_30 : decs cX3_valueOf [(104, .land, 1), (105, .lreturn, 1), (106, .lload_n 1, 1), (107, .lreturn, 1), (108, .lload_n 1, 1), (109, .l2i, 1), (110, .ldc 111, 2), (112, .iand, 1), (113, .ldc 112, 2), (115, .if_icmp .le 9, 3), (118, .ldc2_w 113, 3), (121, .goto 6, 3), (124, .lload_n 1, 1), (125, .l2i, 1), (126, .i2l, 1), (127, .lreturn, 1), (128, .lload_n 1, 1), (129, .ldc2_w 115, 3), (132, .land, 1), (133, .ldc2_w 117, 3), (136, .lcmp, 1), (137, .ifCond .le 9, 3), (140, .ldc2_w 119, 3), (143, .goto 4, 3)] = true := by decide +kernel
theorem dX3_valueOf_104 : decode cX3_valueOf 104 = .ok (.land, 1) := decs_at bnd_x30_30 0 (x := (104, .land, 1)) rfl
theorem dX3_valueOf_105 : decode cX3_valueOf 105 = .ok (.lreturn, 1) := decs_at bnd_x30_30 1 (x := (105, .lreturn, 1)) rfl
theorem dX3_valueOf_106 : decode cX3_valueOf 106 = .ok (.lload_n 1, 1) := decs_at bnd_x30_30 2 (x := (106, .lload_n 1, 1)) rfl
theorem dX3_valueOf_107 : decode cX3_valueOf 107 = .ok (.lreturn, 1) := decs_at bnd_x30_30 3 (x := (107, .lreturn, 1)) rfl
theorem dX3_valueOf_108 : decode cX3_valueOf 108 = .ok (.lload_n 1, 1) := decs_at bnd_x30_30 4 (x := (108, .lload_n 1, 1)) rfl
theorem dX3_valueOf_109 : decode cX3_valueOf 109 = .ok (.l2i, 1) := decs_at bnd_x30_30 5 (x := (109, .l2i, 1)) rfl
theorem dX3_valueOf_110 : decode cX3_valueOf 110 = .ok (.ldc 111, 2) := decs_at bnd_x30_30 6 (x := (110, .ldc 111, 2)) rfl
theorem dX3_valueOf_112 : decode cX3_valueOf 112 = .ok (.iand, 1) := decs_at bnd_x30_30 7 (x := (112, .iand, 1)) rfl
theorem dX3_valueOf_113 : decode cX3_valueOf 113 = .ok (.ldc 112, 2) := decs_at bnd_x30_30 8 (x := (113, .ldc 112, 2)) rfl
theorem dX3_valueOf_115 : decode cX3_valueOf 115 = .ok (.if_icmp .le 9, 3) := decs_at bnd_x30_30 9 (x := (115, .if_icmp .le 9, 3)) rfl
theorem dX3_valueOf_118 : decode cX3_valueOf 118 = .ok (.ldc2_w 113, 3) := decs_at bnd_x30_30 10 (x := (118, .ldc2_w 113, 3)) rfl
theorem dX3_valueOf_121 : decode cX3_valueOf 121 = .ok (.goto 6, 3) := decs_at bnd_x30_30 11 (x := (121, .goto 6, 3)) rfl
theorem dX3_valueOf_124 : decode cX3_valueOf 124 = .ok (.lload_n 1, 1) := decs_at bnd_x30_30 12 (x := (124, .lload_n 1, 1)) rfl
theorem dX3_valueOf_125 : decode cX3_valueOf 125 = .ok (.l2i, 1) := decs_at bnd_x30_30 13 (x := (125, .l2i, 1)) rfl
theorem dX3_valueOf_126 : decode cX3_valueOf 126 = .ok (.i2l, 1) := decs_at bnd_x30_30 14 (x := (126, .i2l, 1)) rfl
theorem dX3_valueOf_127 : decode cX3_valueOf 127 = .ok (.lreturn, 1) := decs_at bnd_x30_30 15 (x := (127, .lreturn, 1)) rfl
theorem dX3_valueOf_128 : decode cX3_valueOf 128 = .ok (.lload_n 1, 1) := decs_at bnd_x30_30 16 (x := (128, .lload_n 1, 1)) rfl
theorem dX3_valueOf_129 : decode cX3_valueOf 129 = .ok (.ldc2_w 115, 3) := decs_at bnd_x30_30 17 (x := (129, .ldc2_w 115, 3)) rfl
theorem dX3_valueOf_132 : decode cX3_valueOf 132 = .ok (.land, 1) := decs_at bnd_x30_30 18 (x := (132, .land, 1)) rfl
theorem dX3_valueOf_133 : decode cX3_valueOf 133 = .ok (.ldc2_w 117, 3) := decs_at bnd_x30_30 19 (x := (133, .ldc2_w 117, 3)) rfl
theorem dX3_valueOf_136 : decode cX3_valueOf 136 = .ok (.lcmp, 1) := decs_at bnd_x30_30 20 (x := (136, .lcmp, 1)) rfl
theorem dX3_valueOf_137 : decode cX3_valueOf 137 = .ok (.ifCond .le 9, 3) := decs_at bnd_x30_30 21 (x := (137, .ifCond .le 9, 3)) rfl
theorem dX3_valueOf_140 : decode cX3_valueOf 140 = .ok (.ldc2_w 119, 3) := decs_at bnd_x30_30 22 (x := (140, .ldc2_w 119, 3)) rfl
theorem dX3_valueOf_143 : decode cX3_valueOf 143 = .ok (.goto 4, 3) := decs_at bnd_x30_30 23 (x := (143, .goto 4, 3)) rfl
theorem bnd_x30_31 : decs cX3_valueOf [(146, .lload_n 1, 1), (147, .lreturn, 1), (148, .lload_n 1, 1), (149, .l2i, 1), (150, .i2l, 1), (151, .lreturn, 1)] = true := by decide +kernel
theorem dX3_valueOf_146 : decode cX3_valueOf 146 = .ok (.lload_n 1, 1) := decs_at bnd_x30_31 0 (x := (146, .lload_n 1, 1)) rfl
theorem dX3_valueOf_147 : decode cX3_valueOf 147 = .ok (.lreturn, 1) := decs_at bnd_x30_31 1 (x := (147, .lreturn, 1)) rfl
theorem dX3_valueOf_148 : decode cX3_valueOf 148 = .ok (.lload_n 1, 1) := decs_at bnd_x30_31 2 (x := (148, .lload_n 1, 1)) rfl
theorem dX3_valueOf_149 : decode cX3_valueOf 149 = .ok (.l2i, 1) := decs_at bnd_x30_31 3 (x := (149, .l2i, 1)) rfl
theorem dX3_valueOf_150 : decode cX3_valueOf 150 = .ok (.i2l, 1) := decs_at bnd_x30_31 4 (x := (150, .i2l, 1)) rfl
theorem dX3_valueOf_151 : decode cX3_valueOf 151 = .ok (.lreturn, 1) := decs_at bnd_x30_31 5 (x := (151, .lreturn, 1)) rfl
set_option maxRecDepth 20000 in
theorem ggX3_isOther_X3_has : GoodIn wsX3_isOther wsX3_has := goodIn_r _ [6] rfl (by decide +kernel)
set_option maxRecDepth 20000 in
theorem gX3_isOther_X3_has : GoodIn wsX3_isOther (va_wsS RX3 78 yX3_has wsX3_has) := goodIn_app (goodIn_r _ [3, 4, 5] rfl (by decide +kernel)) ggX3_isOther_X3_has
theorem bnd_x30_32 : decs cX3_isOther [(0, .aload_n 0, 1), (1, .getfield 7, 3), (4, .iload_n 1, 1), (5, .iaload, 1), (6, .iconst (-1), 1), (7, .if_icmp .eq 25, 3), (10, .aload_n 0, 1), (11, .getfield 13, 3), (14, .aload_n 0, 1), (15, .getfield 7, 3), (18, .iload_n 1, 1), (19, .iaload, 1), (20, .iaload, 1), (21, .iload_n 2, 1), (22, .invokestatic 78, 3), (25, .ifCond .ne 7, 3), (28, .iconst 1, 1), (29, .goto 4, 3), (32, .iconst 0, 1), (33, .ireturn, 1)] = true := by decide +kernel
theorem dX3_isOther_0 : decode cX3_isOther 0 = .ok (.aload_n 0, 1) := decs_at bnd_x30_32 0 (x := (0, .aload_n 0, 1)) rfl
theorem dX3_isOther_1 : decode cX3_isOther 1 = .ok (.getfield 7, 3) := decs_at bnd_x30_32 1 (x := (1, .getfield 7, 3)) rfl
theorem dX3_isOther_4 : decode cX3_isOther 4 = .ok (.iload_n 1, 1) := decs_at bnd_x30_32 2 (x := (4, .iload_n 1, 1)) rfl
theorem dX3_isOther_5 : decode cX3_isOther 5 = .ok (.iaload, 1) := decs_at bnd_x30_32 3 (x := (5, .iaload, 1)) rfl
theorem dX3_isOther_6 : decode cX3_isOther 6 = .ok (.iconst (-1), 1) := decs_at bnd_x30_32 4 (x := (6, .iconst (-1), 1)) rfl
theorem dX3_isOther_7 : decode cX3_isOther 7 = .ok (.if_icmp .eq 25, 3) := decs_at bnd_x30_32 5 (x := (7, .if_icmp .eq 25, 3)) rfl
theorem dX3_isOther_10 : decode cX3_isOther 10 = .ok (.aload_n 0, 1) := decs_at bnd_x30_32 6 (x := (10, .aload_n 0, 1)) rfl
theorem dX3_isOther_11 : decode cX3_isOther 11 = .ok (.getfield 13, 3) := decs_at bnd_x30_32 7 (x := (11, .getfield 13, 3)) rfl
theorem dX3_isOther_14 : decode cX3_isOther 14 = .ok (.aload_n 0, 1) := decs_at bnd_x30_32 8 (x := (14, .aload_n 0, 1)) rfl
theorem dX3_isOther_15 : decode cX3_isOther 15 = .ok (.getfield 7, 3) := decs_at bnd_x30_32 9 (x := (15, .getfield 7, 3)) rfl
theorem dX3_isOther_18 : decode cX3_isOther 18 = .ok (.iload_n 1, 1) := decs_at bnd_x30_32 10 (x := (18, .iload_n 1, 1)) rfl
theorem dX3_isOther_19 : decode cX3_isOther 19 = .ok (.iaload, 1) := decs_at bnd_x30_32 11 (x := (19, .iaload, 1)) rfl
theorem dX3_isOther_20 : decode cX3_isOther 20 = .ok (.iaload, 1) := decs_at bnd_x30_32 12 (x := (20, .iaload, 1)) rfl
theorem dX3_isOther_21 : decode cX3_isOther 21 = .ok (.iload_n 2, 1) := decs_at bnd_x30_32 13 (x := (21, .iload_n 2, 1)) rfl
theorem dX3_isOther_22 : decode cX3_isOther 22 = .ok (.invokestatic 78, 3) := decs_at bnd_x30_32 14 (x := (22, .invokestatic 78, 3)) rfl
theorem dX3_isOther_25 : decode cX3_isOther 25 = .ok (.ifCond .ne 7, 3) := decs_at bnd_x30_32 15 (x := (25, .ifCond .ne 7, 3)) rfl
theorem dX3_isOther_28 : decode cX3_isOther 28 = .ok (.iconst 1, 1) := decs_at bnd_x30_32 16 (x := (28, .iconst 1, 1)) rfl
theorem dX3_isOther_29 : decode cX3_isOther 29 = .ok (.goto 4, 3) := decs_at bnd_x30_32 17 (x := (29, .goto 4, 3)) rfl
theorem dX3_isOther_32 : decode cX3_isOther 32 = .ok (.iconst 0, 1) := decs_at bnd_x30_32 18 (x := (32, .iconst 0, 1)) rfl
theorem dX3_isOther_33 : decode cX3_isOther 33 = .ok (.ireturn, 1) := decs_at bnd_x30_32 19 (x := (33, .ireturn, 1)) rfl
set_option maxRecDepth 20000 in
theorem ggX3_get_X3_isSlot : GoodIn wsX3_get wsX3_isSlot := goodIn_r _ [9, 10, 11, 12, 8, 13] rfl (by decide +kernel)
set_option maxRecDepth 20000 in
theorem gX3_get_X3_isSlot : GoodIn wsX3_get (va_wsS RX3 84 yX3_isSlot wsX3_isSlot) := goodIn_app (goodIn_r _ [6, 7, 8] rfl (by decide +kernel)) ggX3_get_X3_isSlot
set_option maxRecDepth 20000 in
theorem ggX3_get_X3_isPlain : GoodIn wsX3_get wsX3_isPlain := goodIn_r _ [16, 17, 18, 19, 11, 12, 8, 13] rfl (by decide +kernel)
set_option maxRecDepth 20000 in
theorem gX3_get_X3_isPlain : GoodIn wsX3_get (va_wsS RX3 121 yX3_isPlain wsX3_isPlain) := goodIn_app (goodIn_r _ [14, 15, 8] rfl (by decide +kernel)) ggX3_get_X3_isPlain
set_option maxRecDepth 20000 in
theorem ggX3_get_X3_isOther : GoodIn wsX3_get wsX3_isOther := goodIn_r _ [23, 2, 24, 25, 26, 8, 27, 28, 29, 30, 31, 32, 33, 34, 35, 36, 37, 38, 39, 40, 41, 42, 43, 44, 45, 46, 47, 48, 49, 50] rfl (by decide +kernel)
set_option maxRecDepth 20000 in
theorem gX3_get_X3_isOther : GoodIn wsX3_get (wsV RX3 126 RX3 yX3_isOther wsX3_isOther) := goodIn_app (goodIn_r _ [20, 21, 22, 8] rfl (by decide +kernel)) ggX3_get_X3_isOther
theorem bnd_x30_33 : decs cX3_get [(0, .iload_n 1, 1), (1, .invokestatic 84, 3), (4, .ifCond .eq 10, 3), (7, .iload_n 2, 1), (8, .invokestatic 121, 3), (11, .ifCond .ne 7, 3), (14, .ldc2_w 82, 3), (17, .lreturn, 1), (18, .aload_n 0, 1), (19, .getfield 7, 3), (22, .iload_n 1, 1), (23, .iaload, 1), (24, .iconst (-1), 1), (25, .if_icmp .ne 9, 3), (28, .ldc2_w 124, 3), (31, .goto 34, 3), (34, .aload_n 0, 1), (35, .iload_n 1, 1), (36, .iload_n 2, 1), (37, .invokevirtual 126, 3), (40, .ifCond .eq 9, 3), (43, .ldc2_w 129, 3), (46, .goto 19, 3), (49, .aload_n 0, 1)] = true := by decide +kernel
theorem dX3_get_0 : decode cX3_get 0 = .ok (.iload_n 1, 1) := decs_at bnd_x30_33 0 (x := (0, .iload_n 1, 1)) rfl
theorem dX3_get_1 : decode cX3_get 1 = .ok (.invokestatic 84, 3) := decs_at bnd_x30_33 1 (x := (1, .invokestatic 84, 3)) rfl
theorem dX3_get_4 : decode cX3_get 4 = .ok (.ifCond .eq 10, 3) := decs_at bnd_x30_33 2 (x := (4, .ifCond .eq 10, 3)) rfl
theorem dX3_get_7 : decode cX3_get 7 = .ok (.iload_n 2, 1) := decs_at bnd_x30_33 3 (x := (7, .iload_n 2, 1)) rfl
theorem dX3_get_8 : decode cX3_get 8 = .ok (.invokestatic 121, 3) := decs_at bnd_x30_33 4 (x := (8, .invokestatic 121, 3)) rfl
theorem dX3_get_11 : decode cX3_get 11 = .ok (.ifCond .ne 7, 3) := decs_at bnd_x30_33 5 (x := (11, .ifCond .ne 7, 3)) rfl
theorem dX3_get_14 : decode cX3_get 14 = .ok (.ldc2_w 82, 3) := decs_at bnd_x30_33 6 (x := (14, .ldc2_w 82, 3)) rfl
theorem dX3_get_17 : decode cX3_get 17 = .ok (.lreturn, 1) := decs_at bnd_x30_33 7 (x := (17, .lreturn, 1)) rfl
theorem dX3_get_18 : decode cX3_get 18 = .ok (.aload_n 0, 1) := decs_at bnd_x30_33 8 (x := (18, .aload_n 0, 1)) rfl
theorem dX3_get_19 : decode cX3_get 19 = .ok (.getfield 7, 3) := decs_at bnd_x30_33 9 (x := (19, .getfield 7, 3)) rfl
theorem dX3_get_22 : decode cX3_get 22 = .ok (.iload_n 1, 1) := decs_at bnd_x30_33 10 (x := (22, .iload_n 1, 1)) rfl
theorem dX3_get_23 : decode cX3_get 23 = .ok (.iaload, 1) := decs_at bnd_x30_33 11 (x := (23, .iaload, 1)) rfl
theorem dX3_get_24 : decode cX3_get 24 = .ok (.iconst (-1), 1) := decs_at bnd_x30_33 12 (x := (24, .iconst (-1), 1)) rfl
theorem dX3_get_25 : decode cX3_get 25 = .ok (.if_icmp .ne 9, 3) := decs_at bnd_x30_33 13 (x := (25, .if_icmp .ne 9, 3)) rfl
theorem dX3_get_28 : decode cX3_get 28 = .ok (.ldc2_w 124, 3) := decs_at bnd_x30_33 14 (x := (28, .ldc2_w 124, 3)) rfl
theorem dX3_get_31 : decode cX3_get 31 = .ok (.goto 34, 3) := decs_at bnd_x30_33 15 (x := (31, .goto 34, 3)) rfl
theorem dX3_get_34 : decode cX3_get 34 = .ok (.aload_n 0, 1) := decs_at bnd_x30_33 16 (x := (34, .aload_n 0, 1)) rfl
theorem dX3_get_35 : decode cX3_get 35 = .ok (.iload_n 1, 1) := decs_at bnd_x30_33 17 (x := (35, .iload_n 1, 1)) rfl
theorem dX3_get_36 : decode cX3_get 36 = .ok (.iload_n 2, 1) := decs_at bnd_x30_33 18 (x := (36, .iload_n 2, 1)) rfl
theorem dX3_get_37 : decode cX3_get 37 = .ok (.invokevirtual 126, 3) := decs_at bnd_x30_33 19 (x := (37, .invokevirtual 126, 3)) rfl
theorem dX3_get_40 : decode cX3_get 40 = .ok (.ifCond .eq 9, 3) := decs_at bnd_x30_33 20 (x := (40, .ifCond .eq 9, 3)) rfl
theorem dX3_get_43 : decode cX3_get 43 = .ok (.ldc2_w 129, 3) := decs_at bnd_x30_33 21 (x := (43, .ldc2_w 129, 3)) rfl
theorem dX3_get_46 : decode cX3_get 46 = .ok (.goto 19, 3) := decs_at bnd_x30_33 22 (x := (46, .goto 19, 3)) rfl
theorem dX3_get_49 : decode cX3_get 49 = .ok (.aload_n 0, 1) := decs_at bnd_x30_33 23 (x := (49, .aload_n 0, 1)) rfl
theorem bnd_x30_34 : decs cX3_get [(50, .getfield 17, 3), (53, .bipush 17, 2), (55, .aload_n 0, 1), (56, .getfield 7, 3), (59, .iload_n 1, 1), (60, .iaload, 1), (61, .imul, 1), (62, .iload_n 2, 1), (63, .iadd, 1), (64, .laload, 1), (65, .lreturn, 1)] = true := by decide +kernel
theorem dX3_get_50 : decode cX3_get 50 = .ok (.getfield 17, 3) := decs_at bnd_x30_34 0 (x := (50, .getfield 17, 3)) rfl
theorem dX3_get_53 : decode cX3_get 53 = .ok (.bipush 17, 2) := decs_at bnd_x30_34 1 (x := (53, .bipush 17, 2)) rfl
theorem dX3_get_55 : decode cX3_get 55 = .ok (.aload_n 0, 1) := decs_at bnd_x30_34 2 (x := (55, .aload_n 0, 1)) rfl
theorem dX3_get_56 : decode cX3_get 56 = .ok (.getfield 7, 3) := decs_at bnd_x30_34 3 (x := (56, .getfield 7, 3)) rfl
theorem dX3_get_59 : decode cX3_get 59 = .ok (.iload_n 1, 1) := decs_at bnd_x30_34 4 (x := (59, .iload_n 1, 1)) rfl
theorem dX3_get_60 : decode cX3_get 60 = .ok (.iaload, 1) := decs_at bnd_x30_34 5 (x := (60, .iaload, 1)) rfl
theorem dX3_get_61 : decode cX3_get 61 = .ok (.imul, 1) := decs_at bnd_x30_34 6 (x := (61, .imul, 1)) rfl
theorem dX3_get_62 : decode cX3_get 62 = .ok (.iload_n 2, 1) := decs_at bnd_x30_34 7 (x := (62, .iload_n 2, 1)) rfl
theorem dX3_get_63 : decode cX3_get 63 = .ok (.iadd, 1) := decs_at bnd_x30_34 8 (x := (63, .iadd, 1)) rfl
theorem dX3_get_64 : decode cX3_get 64 = .ok (.laload, 1) := decs_at bnd_x30_34 9 (x := (64, .laload, 1)) rfl
theorem dX3_get_65 : decode cX3_get 65 = .ok (.lreturn, 1) := decs_at bnd_x30_34 10 (x := (65, .lreturn, 1)) rfl
set_option maxRecDepth 20000 in
theorem ggX3_set_X3_isSlot : GoodIn wsX3_set wsX3_isSlot := goodIn_r _ [6, 7, 8, 9, 5, 10] rfl (by decide +kernel)
set_option maxRecDepth 20000 in
theorem gX3_set_X3_isSlot : GoodIn wsX3_set (va_wsS RX3 84 yX3_isSlot wsX3_isSlot) := goodIn_app (goodIn_r _ [3, 4, 5] rfl (by decide +kernel)) ggX3_set_X3_isSlot
set_option maxRecDepth 20000 in
theorem ggX3_set_X3_isPlain : GoodIn wsX3_set wsX3_isPlain := goodIn_r _ [13, 14, 15, 16, 8, 9, 5, 10] rfl (by decide +kernel)
set_option maxRecDepth 20000 in
theorem gX3_set_X3_isPlain : GoodIn wsX3_set (va_wsS RX3 121 yX3_isPlain wsX3_isPlain) := goodIn_app (goodIn_r _ [11, 12, 5] rfl (by decide +kernel)) ggX3_set_X3_isPlain
set_option maxRecDepth 20000 in
theorem ggX3_set_X3_isOther : GoodIn wsX3_set wsX3_isOther := goodIn_r _ [20, 1, 21, 22, 23, 5, 24, 35, 36, 37, 38, 39, 40, 41, 42, 43, 44, 45, 46, 47, 48, 49, 50, 51, 52, 53, 54, 55, 56, 57] rfl (by decide +kernel)
set_option maxRecDepth 20000 in
theorem gX3_set_X3_isOther : GoodIn wsX3_set (wsV RX3 126 RX3 yX3_isOther wsX3_isOther) := goodIn_app (goodIn_r _ [17, 18, 19, 5] rfl (by decide +kernel)) ggX3_set_X3_isOther
set_option maxRecDepth 20000 in
theorem ggX3_set_X3_valueOf : GoodIn wsX3_set wsX3_valueOf := goodIn_r _ [27, 28, 29, 30, 31, 32, 33, 34] rfl (by decide +kernel)
set_option maxRecDepth 20000 in
theorem gX3_set_X3_valueOf : GoodIn wsX3_set (va_wsS RX3 131 yX3_valueOf wsX3_valueOf) := goodIn_app (goodIn_r _ [25, 26, 5] rfl (by decide +kernel)) ggX3_set_X3_valueOf
theorem bnd_x30_35 : decs cX3_set [(0, .iload_n 1, 1), (1, .invokestatic 84, 3), (4, .ifCond .eq 10, 3), (7, .iload_n 2, 1), (8, .invokestatic 121, 3), (11, .ifCond .ne 5, 3), (14, .iconst (-1), 1), (15, .ireturn, 1), (16, .aload_n 0, 1), (17, .iload_n 1, 1), (18, .iload_n 2, 1), (19, .invokevirtual 126, 3), (22, .ifCond .ne 13, 3), (25, .aload_n 0, 1), (26, .getfield 7, 3), (29, .iload_n 1, 1), (30, .iaload, 1), (31, .iconst (-1), 1), (32, .if_icmp .ne 21, 3), (35, .aload_n 0, 1), (36, .getfield 7, 3), (39, .iload_n 1, 1), (40, .iaload, 1), (41, .iconst (-1), 1)] = true := by decide +kernel
theorem dX3_set_0 : decode cX3_set 0 = .ok (.iload_n 1, 1) := decs_at bnd_x30_35 0 (x := (0, .iload_n 1, 1)) rfl
theorem dX3_set_1 : decode cX3_set 1 = .ok (.invokestatic 84, 3) := decs_at bnd_x30_35 1 (x := (1, .invokestatic 84, 3)) rfl
theorem dX3_set_4 : decode cX3_set 4 = .ok (.ifCond .eq 10, 3) := decs_at bnd_x30_35 2 (x := (4, .ifCond .eq 10, 3)) rfl
theorem dX3_set_7 : decode cX3_set 7 = .ok (.iload_n 2, 1) := decs_at bnd_x30_35 3 (x := (7, .iload_n 2, 1)) rfl
theorem dX3_set_8 : decode cX3_set 8 = .ok (.invokestatic 121, 3) := decs_at bnd_x30_35 4 (x := (8, .invokestatic 121, 3)) rfl
theorem dX3_set_11 : decode cX3_set 11 = .ok (.ifCond .ne 5, 3) := decs_at bnd_x30_35 5 (x := (11, .ifCond .ne 5, 3)) rfl
theorem dX3_set_14 : decode cX3_set 14 = .ok (.iconst (-1), 1) := decs_at bnd_x30_35 6 (x := (14, .iconst (-1), 1)) rfl
theorem dX3_set_15 : decode cX3_set 15 = .ok (.ireturn, 1) := decs_at bnd_x30_35 7 (x := (15, .ireturn, 1)) rfl
theorem dX3_set_16 : decode cX3_set 16 = .ok (.aload_n 0, 1) := decs_at bnd_x30_35 8 (x := (16, .aload_n 0, 1)) rfl
theorem dX3_set_17 : decode cX3_set 17 = .ok (.iload_n 1, 1) := decs_at bnd_x30_35 9 (x := (17, .iload_n 1, 1)) rfl
theorem dX3_set_18 : decode cX3_set 18 = .ok (.iload_n 2, 1) := decs_at bnd_x30_35 10 (x := (18, .iload_n 2, 1)) rfl
theorem dX3_set_19 : decode cX3_set 19 = .ok (.invokevirtual 126, 3) := decs_at bnd_x30_35 11 (x := (19, .invokevirtual 126, 3)) rfl
theorem dX3_set_22 : decode cX3_set 22 = .ok (.ifCond .ne 13, 3) := decs_at bnd_x30_35 12 (x := (22, .ifCond .ne 13, 3)) rfl
theorem dX3_set_25 : decode cX3_set 25 = .ok (.aload_n 0, 1) := decs_at bnd_x30_35 13 (x := (25, .aload_n 0, 1)) rfl
theorem dX3_set_26 : decode cX3_set 26 = .ok (.getfield 7, 3) := decs_at bnd_x30_35 14 (x := (26, .getfield 7, 3)) rfl
theorem dX3_set_29 : decode cX3_set 29 = .ok (.iload_n 1, 1) := decs_at bnd_x30_35 15 (x := (29, .iload_n 1, 1)) rfl
theorem dX3_set_30 : decode cX3_set 30 = .ok (.iaload, 1) := decs_at bnd_x30_35 16 (x := (30, .iaload, 1)) rfl
theorem dX3_set_31 : decode cX3_set 31 = .ok (.iconst (-1), 1) := decs_at bnd_x30_35 17 (x := (31, .iconst (-1), 1)) rfl
theorem dX3_set_32 : decode cX3_set 32 = .ok (.if_icmp .ne 21, 3) := decs_at bnd_x30_35 18 (x := (32, .if_icmp .ne 21, 3)) rfl
theorem dX3_set_35 : decode cX3_set 35 = .ok (.aload_n 0, 1) := decs_at bnd_x30_35 19 (x := (35, .aload_n 0, 1)) rfl
theorem dX3_set_36 : decode cX3_set 36 = .ok (.getfield 7, 3) := decs_at bnd_x30_35 20 (x := (36, .getfield 7, 3)) rfl
theorem dX3_set_39 : decode cX3_set 39 = .ok (.iload_n 1, 1) := decs_at bnd_x30_35 21 (x := (39, .iload_n 1, 1)) rfl
theorem dX3_set_40 : decode cX3_set 40 = .ok (.iaload, 1) := decs_at bnd_x30_35 22 (x := (40, .iaload, 1)) rfl
theorem dX3_set_41 : decode cX3_set 41 = .ok (.iconst (-1), 1) := decs_at bnd_x30_35 23 (x := (41, .iconst (-1), 1)) rfl
theorem bnd_x30_36 : decs cX3_set [(42, .if_icmp .ne 8, 3), (45, .bipush (-11), 2), (47, .goto 5, 3), (50, .bipush (-14), 2), (52, .ireturn, 1), (53, .iload_n 2, 1), (54, .bipush 13, 2), (56, .if_icmp .eq 9, 3), (59, .iload_n 2, 1), (60, .bipush 16, 2), (62, .if_icmp .ne 6, 3), (65, .bipush (-17), 2), (67, .ireturn, 1), (68, .aload_n 0, 1), (69, .getfield 17, 3), (72, .bipush 17, 2), (74, .aload_n 0, 1), (75, .getfield 7, 3), (78, .iload_n 1, 1), (79, .iaload, 1), (80, .imul, 1), (81, .iload_n 2, 1), (82, .iadd, 1), (83, .iload_n 2, 1)] = true := by decide +kernel
theorem dX3_set_42 : decode cX3_set 42 = .ok (.if_icmp .ne 8, 3) := decs_at bnd_x30_36 0 (x := (42, .if_icmp .ne 8, 3)) rfl
theorem dX3_set_45 : decode cX3_set 45 = .ok (.bipush (-11), 2) := decs_at bnd_x30_36 1 (x := (45, .bipush (-11), 2)) rfl
theorem dX3_set_47 : decode cX3_set 47 = .ok (.goto 5, 3) := decs_at bnd_x30_36 2 (x := (47, .goto 5, 3)) rfl
theorem dX3_set_50 : decode cX3_set 50 = .ok (.bipush (-14), 2) := decs_at bnd_x30_36 3 (x := (50, .bipush (-14), 2)) rfl
theorem dX3_set_52 : decode cX3_set 52 = .ok (.ireturn, 1) := decs_at bnd_x30_36 4 (x := (52, .ireturn, 1)) rfl
theorem dX3_set_53 : decode cX3_set 53 = .ok (.iload_n 2, 1) := decs_at bnd_x30_36 5 (x := (53, .iload_n 2, 1)) rfl
theorem dX3_set_54 : decode cX3_set 54 = .ok (.bipush 13, 2) := decs_at bnd_x30_36 6 (x := (54, .bipush 13, 2)) rfl
theorem dX3_set_56 : decode cX3_set 56 = .ok (.if_icmp .eq 9, 3) := decs_at bnd_x30_36 7 (x := (56, .if_icmp .eq 9, 3)) rfl
theorem dX3_set_59 : decode cX3_set 59 = .ok (.iload_n 2, 1) := decs_at bnd_x30_36 8 (x := (59, .iload_n 2, 1)) rfl
theorem dX3_set_60 : decode cX3_set 60 = .ok (.bipush 16, 2) := decs_at bnd_x30_36 9 (x := (60, .bipush 16, 2)) rfl
theorem dX3_set_62 : decode cX3_set 62 = .ok (.if_icmp .ne 6, 3) := decs_at bnd_x30_36 10 (x := (62, .if_icmp .ne 6, 3)) rfl
theorem dX3_set_65 : decode cX3_set 65 = .ok (.bipush (-17), 2) := decs_at bnd_x30_36 11 (x := (65, .bipush (-17), 2)) rfl
theorem dX3_set_67 : decode cX3_set 67 = .ok (.ireturn, 1) := decs_at bnd_x30_36 12 (x := (67, .ireturn, 1)) rfl
theorem dX3_set_68 : decode cX3_set 68 = .ok (.aload_n 0, 1) := decs_at bnd_x30_36 13 (x := (68, .aload_n 0, 1)) rfl
theorem dX3_set_69 : decode cX3_set 69 = .ok (.getfield 17, 3) := decs_at bnd_x30_36 14 (x := (69, .getfield 17, 3)) rfl
theorem dX3_set_72 : decode cX3_set 72 = .ok (.bipush 17, 2) := decs_at bnd_x30_36 15 (x := (72, .bipush 17, 2)) rfl
theorem dX3_set_74 : decode cX3_set 74 = .ok (.aload_n 0, 1) := decs_at bnd_x30_36 16 (x := (74, .aload_n 0, 1)) rfl
theorem dX3_set_75 : decode cX3_set 75 = .ok (.getfield 7, 3) := decs_at bnd_x30_36 17 (x := (75, .getfield 7, 3)) rfl
theorem dX3_set_78 : decode cX3_set 78 = .ok (.iload_n 1, 1) := decs_at bnd_x30_36 18 (x := (78, .iload_n 1, 1)) rfl
theorem dX3_set_79 : decode cX3_set 79 = .ok (.iaload, 1) := decs_at bnd_x30_36 19 (x := (79, .iaload, 1)) rfl
theorem dX3_set_80 : decode cX3_set 80 = .ok (.imul, 1) := decs_at bnd_x30_36 20 (x := (80, .imul, 1)) rfl
theorem dX3_set_81 : decode cX3_set 81 = .ok (.iload_n 2, 1) := decs_at bnd_x30_36 21 (x := (81, .iload_n 2, 1)) rfl
theorem dX3_set_82 : decode cX3_set 82 = .ok (.iadd, 1) := decs_at bnd_x30_36 22 (x := (82, .iadd, 1)) rfl
theorem dX3_set_83 : decode cX3_set 83 = .ok (.iload_n 2, 1) := decs_at bnd_x30_36 23 (x := (83, .iload_n 2, 1)) rfl
theorem bnd_x30_37 : decs cX3_set [(84, .lload_n 3, 1), (85, .invokestatic 131, 3), (88, .lastore, 1), (89, .iconst 1, 1), (90, .ireturn, 1)] = true := by decide +kernel
theorem dX3_set_84 : decode cX3_set 84 = .ok (.lload_n 3, 1) := decs_at bnd_x30_37 0 (x := (84, .lload_n 3, 1)) rfl
theorem dX3_set_85 : decode cX3_set 85 = .ok (.invokestatic 131, 3) := decs_at bnd_x30_37 1 (x := (85, .invokestatic 131, 3)) rfl
theorem dX3_set_88 : decode cX3_set 88 = .ok (.lastore, 1) := decs_at bnd_x30_37 2 (x := (88, .lastore, 1)) rfl
theorem dX3_set_89 : decode cX3_set 89 = .ok (.iconst 1, 1) := decs_at bnd_x30_37 3 (x := (89, .iconst 1, 1)) rfl
theorem dX3_set_90 : decode cX3_set 90 = .ok (.ireturn, 1) := decs_at bnd_x30_37 4 (x := (90, .ireturn, 1)) rfl
set_option maxRecDepth 20000 in
theorem ggX3_link_X3_isSlot : GoodIn wsX3_link wsX3_isSlot := goodIn_r _ [7, 8, 9, 10, 6, 11] rfl (by decide +kernel)
set_option maxRecDepth 20000 in
theorem gX3_link_X3_isSlot : GoodIn wsX3_link (va_wsS RX3 84 yX3_isSlot wsX3_isSlot) := goodIn_app (goodIn_r _ [4, 5, 6] rfl (by decide +kernel)) ggX3_link_X3_isSlot
set_option maxRecDepth 20000 in
theorem ggX3_link_X3_isLink : GoodIn wsX3_link wsX3_isLink := goodIn_r _ [14] rfl (by decide +kernel)
set_option maxRecDepth 20000 in
theorem gX3_link_X3_isLink : GoodIn wsX3_link (va_wsS RX3 74 yX3_isLink wsX3_isLink) := goodIn_app (goodIn_r _ [12, 13, 6] rfl (by decide +kernel)) ggX3_link_X3_isLink
set_option maxRecDepth 20000 in
theorem ggX3_link_X3_isOther : GoodIn wsX3_link wsX3_isOther := goodIn_r _ [18, 1, 2, 19, 20, 6, 21, 25, 26, 27, 28, 29, 30, 31, 32, 33, 34, 35, 36, 37, 38, 39, 40, 41, 42, 43, 44, 45, 46, 47] rfl (by decide +kernel)
set_option maxRecDepth 20000 in
theorem gX3_link_X3_isOther : GoodIn wsX3_link (wsV RX3 126 RX3 yX3_isOther wsX3_isOther) := goodIn_app (goodIn_r _ [15, 16, 17, 6] rfl (by decide +kernel)) ggX3_link_X3_isOther
set_option maxRecDepth 20000 in
theorem ggX3_link_X3_mayBeIn : GoodIn wsX3_link wsX3_mayBeIn := goodIn_r _ [24] rfl (by decide +kernel)
set_option maxRecDepth 20000 in
theorem gX3_link_X3_mayBeIn : GoodIn wsX3_link (va_wsS RX3 135 yX3_mayBeIn wsX3_mayBeIn) := goodIn_app (goodIn_r _ [22, 23, 6] rfl (by decide +kernel)) ggX3_link_X3_mayBeIn
