theorem bnd_x32_0 : decs cX3_tellObject [(0, .aload_n 0, 1), (1, .iload_n 1, 1), (2, .iconst (-1), 1), (3, .aload_n 0, 1), (4, .getfield 13, 3), (7, .iload_n 2, 1), (8, .iaload, 1), (9, .i2l, 1), (10, .invokevirtual 177, 3), (13, .iconst 0, 1), (14, .istore_n 3, 1), (15, .iload_n 3, 1), (16, .bipush 17, 2), (18, .if_icmp .ge 162, 3), (21, .aload_n 0, 1), (22, .getfield 13, 3), (25, .iload_n 2, 1), (26, .iaload, 1), (27, .iload_n 3, 1), (28, .invokestatic 78, 3), (31, .ifCond .ne 6, 3), (34, .goto 140, 3), (37, .aload_n 0, 1), (38, .getfield 17, 3)] = true := by decide +kernel
theorem dX3_tellObject_0 : decode cX3_tellObject 0 = .ok (.aload_n 0, 1) := decs_at bnd_x32_0 0 (x := (0, .aload_n 0, 1)) rfl
theorem dX3_tellObject_1 : decode cX3_tellObject 1 = .ok (.iload_n 1, 1) := decs_at bnd_x32_0 1 (x := (1, .iload_n 1, 1)) rfl
theorem dX3_tellObject_2 : decode cX3_tellObject 2 = .ok (.iconst (-1), 1) := decs_at bnd_x32_0 2 (x := (2, .iconst (-1), 1)) rfl
theorem dX3_tellObject_3 : decode cX3_tellObject 3 = .ok (.aload_n 0, 1) := decs_at bnd_x32_0 3 (x := (3, .aload_n 0, 1)) rfl
theorem dX3_tellObject_4 : decode cX3_tellObject 4 = .ok (.getfield 13, 3) := decs_at bnd_x32_0 4 (x := (4, .getfield 13, 3)) rfl
theorem dX3_tellObject_7 : decode cX3_tellObject 7 = .ok (.iload_n 2, 1) := decs_at bnd_x32_0 5 (x := (7, .iload_n 2, 1)) rfl
theorem dX3_tellObject_8 : decode cX3_tellObject 8 = .ok (.iaload, 1) := decs_at bnd_x32_0 6 (x := (8, .iaload, 1)) rfl
theorem dX3_tellObject_9 : decode cX3_tellObject 9 = .ok (.i2l, 1) := decs_at bnd_x32_0 7 (x := (9, .i2l, 1)) rfl
theorem dX3_tellObject_10 : decode cX3_tellObject 10 = .ok (.invokevirtual 177, 3) := decs_at bnd_x32_0 8 (x := (10, .invokevirtual 177, 3)) rfl
theorem dX3_tellObject_13 : decode cX3_tellObject 13 = .ok (.iconst 0, 1) := decs_at bnd_x32_0 9 (x := (13, .iconst 0, 1)) rfl
theorem dX3_tellObject_14 : decode cX3_tellObject 14 = .ok (.istore_n 3, 1) := decs_at bnd_x32_0 10 (x := (14, .istore_n 3, 1)) rfl
theorem dX3_tellObject_15 : decode cX3_tellObject 15 = .ok (.iload_n 3, 1) := decs_at bnd_x32_0 11 (x := (15, .iload_n 3, 1)) rfl
theorem dX3_tellObject_16 : decode cX3_tellObject 16 = .ok (.bipush 17, 2) := decs_at bnd_x32_0 12 (x := (16, .bipush 17, 2)) rfl
theorem dX3_tellObject_18 : decode cX3_tellObject 18 = .ok (.if_icmp .ge 162, 3) := decs_at bnd_x32_0 13 (x := (18, .if_icmp .ge 162, 3)) rfl
theorem dX3_tellObject_21 : decode cX3_tellObject 21 = .ok (.aload_n 0, 1) := decs_at bnd_x32_0 14 (x := (21, .aload_n 0, 1)) rfl
theorem dX3_tellObject_22 : decode cX3_tellObject 22 = .ok (.getfield 13, 3) := decs_at bnd_x32_0 15 (x := (22, .getfield 13, 3)) rfl
theorem dX3_tellObject_25 : decode cX3_tellObject 25 = .ok (.iload_n 2, 1) := decs_at bnd_x32_0 16 (x := (25, .iload_n 2, 1)) rfl
theorem dX3_tellObject_26 : decode cX3_tellObject 26 = .ok (.iaload, 1) := decs_at bnd_x32_0 17 (x := (26, .iaload, 1)) rfl
theorem dX3_tellObject_27 : decode cX3_tellObject 27 = .ok (.iload_n 3, 1) := decs_at bnd_x32_0 18 (x := (27, .iload_n 3, 1)) rfl
theorem dX3_tellObject_28 : decode cX3_tellObject 28 = .ok (.invokestatic 78, 3) := decs_at bnd_x32_0 19 (x := (28, .invokestatic 78, 3)) rfl
theorem dX3_tellObject_31 : decode cX3_tellObject 31 = .ok (.ifCond .ne 6, 3) := decs_at bnd_x32_0 20 (x := (31, .ifCond .ne 6, 3)) rfl
theorem dX3_tellObject_34 : decode cX3_tellObject 34 = .ok (.goto 140, 3) := decs_at bnd_x32_0 21 (x := (34, .goto 140, 3)) rfl
theorem dX3_tellObject_37 : decode cX3_tellObject 37 = .ok (.aload_n 0, 1) := decs_at bnd_x32_0 22 (x := (37, .aload_n 0, 1)) rfl
theorem dX3_tellObject_38 : decode cX3_tellObject 38 = .ok (.getfield 17, 3) := decs_at bnd_x32_0 23 (x := (38, .getfield 17, 3)) rfl
theorem bnd_x32_1 : decs cX3_tellObject [(41, .bipush 17, 2), (43, .iload_n 2, 1), (44, .imul, 1), (45, .iload_n 3, 1), (46, .iadd, 1), (47, .laload, 1), (48, .lstore 4, 2), (50, .iload_n 3, 1), (51, .bipush 9, 2), (53, .if_icmp .ne 73, 3), (56, .aload_n 0, 1), (57, .getfield 21, 3), (60, .iload_n 2, 1), (61, .iaload, 1), (62, .iconst (-1), 1), (63, .if_icmp .eq 111, 3), (66, .aload_n 0, 1), (67, .iload_n 1, 1), (68, .bipush 9, 2), (70, .aload_n 0, 1), (71, .getfield 21, 3), (74, .iload_n 2, 1), (75, .iaload, 1), (76, .i2l, 1)] = true := by decide +kernel
theorem dX3_tellObject_41 : decode cX3_tellObject 41 = .ok (.bipush 17, 2) := decs_at bnd_x32_1 0 (x := (41, .bipush 17, 2)) rfl
theorem dX3_tellObject_43 : decode cX3_tellObject 43 = .ok (.iload_n 2, 1) := decs_at bnd_x32_1 1 (x := (43, .iload_n 2, 1)) rfl
theorem dX3_tellObject_44 : decode cX3_tellObject 44 = .ok (.imul, 1) := decs_at bnd_x32_1 2 (x := (44, .imul, 1)) rfl
theorem dX3_tellObject_45 : decode cX3_tellObject 45 = .ok (.iload_n 3, 1) := decs_at bnd_x32_1 3 (x := (45, .iload_n 3, 1)) rfl
theorem dX3_tellObject_46 : decode cX3_tellObject 46 = .ok (.iadd, 1) := decs_at bnd_x32_1 4 (x := (46, .iadd, 1)) rfl
theorem dX3_tellObject_47 : decode cX3_tellObject 47 = .ok (.laload, 1) := decs_at bnd_x32_1 5 (x := (47, .laload, 1)) rfl
theorem dX3_tellObject_48 : decode cX3_tellObject 48 = .ok (.lstore 4, 2) := decs_at bnd_x32_1 6 (x := (48, .lstore 4, 2)) rfl
theorem dX3_tellObject_50 : decode cX3_tellObject 50 = .ok (.iload_n 3, 1) := decs_at bnd_x32_1 7 (x := (50, .iload_n 3, 1)) rfl
theorem dX3_tellObject_51 : decode cX3_tellObject 51 = .ok (.bipush 9, 2) := decs_at bnd_x32_1 8 (x := (51, .bipush 9, 2)) rfl
theorem dX3_tellObject_53 : decode cX3_tellObject 53 = .ok (.if_icmp .ne 73, 3) := decs_at bnd_x32_1 9 (x := (53, .if_icmp .ne 73, 3)) rfl
theorem dX3_tellObject_56 : decode cX3_tellObject 56 = .ok (.aload_n 0, 1) := decs_at bnd_x32_1 10 (x := (56, .aload_n 0, 1)) rfl
theorem dX3_tellObject_57 : decode cX3_tellObject 57 = .ok (.getfield 21, 3) := decs_at bnd_x32_1 11 (x := (57, .getfield 21, 3)) rfl
theorem dX3_tellObject_60 : decode cX3_tellObject 60 = .ok (.iload_n 2, 1) := decs_at bnd_x32_1 12 (x := (60, .iload_n 2, 1)) rfl
theorem dX3_tellObject_61 : decode cX3_tellObject 61 = .ok (.iaload, 1) := decs_at bnd_x32_1 13 (x := (61, .iaload, 1)) rfl
theorem dX3_tellObject_62 : decode cX3_tellObject 62 = .ok (.iconst (-1), 1) := decs_at bnd_x32_1 14 (x := (62, .iconst (-1), 1)) rfl
theorem dX3_tellObject_63 : decode cX3_tellObject 63 = .ok (.if_icmp .eq 111, 3) := decs_at bnd_x32_1 15 (x := (63, .if_icmp .eq 111, 3)) rfl
theorem dX3_tellObject_66 : decode cX3_tellObject 66 = .ok (.aload_n 0, 1) := decs_at bnd_x32_1 16 (x := (66, .aload_n 0, 1)) rfl
theorem dX3_tellObject_67 : decode cX3_tellObject 67 = .ok (.iload_n 1, 1) := decs_at bnd_x32_1 17 (x := (67, .iload_n 1, 1)) rfl
theorem dX3_tellObject_68 : decode cX3_tellObject 68 = .ok (.bipush 9, 2) := decs_at bnd_x32_1 18 (x := (68, .bipush 9, 2)) rfl
theorem dX3_tellObject_70 : decode cX3_tellObject 70 = .ok (.aload_n 0, 1) := decs_at bnd_x32_1 19 (x := (70, .aload_n 0, 1)) rfl
theorem dX3_tellObject_71 : decode cX3_tellObject 71 = .ok (.getfield 21, 3) := decs_at bnd_x32_1 20 (x := (71, .getfield 21, 3)) rfl
theorem dX3_tellObject_74 : decode cX3_tellObject 74 = .ok (.iload_n 2, 1) := decs_at bnd_x32_1 21 (x := (74, .iload_n 2, 1)) rfl
theorem dX3_tellObject_75 : decode cX3_tellObject 75 = .ok (.iaload, 1) := decs_at bnd_x32_1 22 (x := (75, .iaload, 1)) rfl
theorem dX3_tellObject_76 : decode cX3_tellObject 76 = .ok (.i2l, 1) := decs_at bnd_x32_1 23 (x := (76, .i2l, 1)) rfl
theorem bnd_x32_2 : decs cX3_tellObject [(77, .invokevirtual 177, 3), (80, .iconst 0, 1), (81, .istore 6, 2), (83, .iload 6, 2), (85, .aload_n 0, 1), (86, .getfield 21, 3), (89, .iload_n 2, 1), (90, .iaload, 1), (91, .if_icmp .ge 32, 3), (94, .aload_n 0, 1), (95, .iload_n 1, 1), (96, .bipush 100, 2), (98, .iload 6, 2), (100, .iadd, 1), (101, .aload_n 0, 1), (102, .getfield 25, 3), (105, .bipush 20, 2), (107, .iload_n 2, 1), (108, .imul, 1), (109, .iload 6, 2), (111, .iadd, 1), (112, .iaload, 1), (113, .i2l, 1), (114, .invokevirtual 177, 3)] = true := by decide +kernel
theorem dX3_tellObject_77 : decode cX3_tellObject 77 = .ok (.invokevirtual 177, 3) := decs_at bnd_x32_2 0 (x := (77, .invokevirtual 177, 3)) rfl
theorem dX3_tellObject_80 : decode cX3_tellObject 80 = .ok (.iconst 0, 1) := decs_at bnd_x32_2 1 (x := (80, .iconst 0, 1)) rfl
theorem dX3_tellObject_81 : decode cX3_tellObject 81 = .ok (.istore 6, 2) := decs_at bnd_x32_2 2 (x := (81, .istore 6, 2)) rfl
theorem dX3_tellObject_83 : decode cX3_tellObject 83 = .ok (.iload 6, 2) := decs_at bnd_x32_2 3 (x := (83, .iload 6, 2)) rfl
theorem dX3_tellObject_85 : decode cX3_tellObject 85 = .ok (.aload_n 0, 1) := decs_at bnd_x32_2 4 (x := (85, .aload_n 0, 1)) rfl
theorem dX3_tellObject_86 : decode cX3_tellObject 86 = .ok (.getfield 21, 3) := decs_at bnd_x32_2 5 (x := (86, .getfield 21, 3)) rfl
theorem dX3_tellObject_89 : decode cX3_tellObject 89 = .ok (.iload_n 2, 1) := decs_at bnd_x32_2 6 (x := (89, .iload_n 2, 1)) rfl
theorem dX3_tellObject_90 : decode cX3_tellObject 90 = .ok (.iaload, 1) := decs_at bnd_x32_2 7 (x := (90, .iaload, 1)) rfl
theorem dX3_tellObject_91 : decode cX3_tellObject 91 = .ok (.if_icmp .ge 32, 3) := decs_at bnd_x32_2 8 (x := (91, .if_icmp .ge 32, 3)) rfl
theorem dX3_tellObject_94 : decode cX3_tellObject 94 = .ok (.aload_n 0, 1) := decs_at bnd_x32_2 9 (x := (94, .aload_n 0, 1)) rfl
theorem dX3_tellObject_95 : decode cX3_tellObject 95 = .ok (.iload_n 1, 1) := decs_at bnd_x32_2 10 (x := (95, .iload_n 1, 1)) rfl
theorem dX3_tellObject_96 : decode cX3_tellObject 96 = .ok (.bipush 100, 2) := decs_at bnd_x32_2 11 (x := (96, .bipush 100, 2)) rfl
theorem dX3_tellObject_98 : decode cX3_tellObject 98 = .ok (.iload 6, 2) := decs_at bnd_x32_2 12 (x := (98, .iload 6, 2)) rfl
theorem dX3_tellObject_100 : decode cX3_tellObject 100 = .ok (.iadd, 1) := decs_at bnd_x32_2 13 (x := (100, .iadd, 1)) rfl
theorem dX3_tellObject_101 : decode cX3_tellObject 101 = .ok (.aload_n 0, 1) := decs_at bnd_x32_2 14 (x := (101, .aload_n 0, 1)) rfl
theorem dX3_tellObject_102 : decode cX3_tellObject 102 = .ok (.getfield 25, 3) := decs_at bnd_x32_2 15 (x := (102, .getfield 25, 3)) rfl
theorem dX3_tellObject_105 : decode cX3_tellObject 105 = .ok (.bipush 20, 2) := decs_at bnd_x32_2 16 (x := (105, .bipush 20, 2)) rfl
theorem dX3_tellObject_107 : decode cX3_tellObject 107 = .ok (.iload_n 2, 1) := decs_at bnd_x32_2 17 (x := (107, .iload_n 2, 1)) rfl
theorem dX3_tellObject_108 : decode cX3_tellObject 108 = .ok (.imul, 1) := decs_at bnd_x32_2 18 (x := (108, .imul, 1)) rfl
theorem dX3_tellObject_109 : decode cX3_tellObject 109 = .ok (.iload 6, 2) := decs_at bnd_x32_2 19 (x := (109, .iload 6, 2)) rfl
theorem dX3_tellObject_111 : decode cX3_tellObject 111 = .ok (.iadd, 1) := decs_at bnd_x32_2 20 (x := (111, .iadd, 1)) rfl
theorem dX3_tellObject_112 : decode cX3_tellObject 112 = .ok (.iaload, 1) := decs_at bnd_x32_2 21 (x := (112, .iaload, 1)) rfl
theorem dX3_tellObject_113 : decode cX3_tellObject 113 = .ok (.i2l, 1) := decs_at bnd_x32_2 22 (x := (113, .i2l, 1)) rfl
theorem dX3_tellObject_114 : decode cX3_tellObject 114 = .ok (.invokevirtual 177, 3) := decs_at bnd_x32_2 23 (x := (114, .invokevirtual 177, 3)) rfl
theorem bnd_x32_3 : decs cX3_tellObject [(117, .iinc 6 1, 3), (120, .goto (-37), 3), (123, .goto 51, 3), (126, .iload_n 3, 1), (127, .invokestatic 74, 3), (130, .ifCond .eq 29, 3), (133, .lload 4, 2), (135, .ldc2_w 82, 3), (138, .lcmp, 1), (139, .ifCond .eq 35, 3), (142, .aload_n 0, 1), (143, .iload_n 1, 1), (144, .iload_n 3, 1), (145, .aload_n 0, 1), (146, .lload 4, 2), (148, .l2i, 1), (149, .invokevirtual 170, 3), (152, .i2l, 1), (153, .invokevirtual 177, 3), (156, .goto 18, 3), (159, .lload 4, 2), (161, .lconst 0, 1), (162, .lcmp, 1), (163, .ifCond .eq 11, 3)] = true := by decide +kernel
theorem dX3_tellObject_117 : decode cX3_tellObject 117 = .ok (.iinc 6 1, 3) := decs_at bnd_x32_3 0 (x := (117, .iinc 6 1, 3)) rfl
theorem dX3_tellObject_120 : decode cX3_tellObject 120 = .ok (.goto (-37), 3) := decs_at bnd_x32_3 1 (x := (120, .goto (-37), 3)) rfl
theorem dX3_tellObject_123 : decode cX3_tellObject 123 = .ok (.goto 51, 3) := decs_at bnd_x32_3 2 (x := (123, .goto 51, 3)) rfl
theorem dX3_tellObject_126 : decode cX3_tellObject 126 = .ok (.iload_n 3, 1) := decs_at bnd_x32_3 3 (x := (126, .iload_n 3, 1)) rfl
theorem dX3_tellObject_127 : decode cX3_tellObject 127 = .ok (.invokestatic 74, 3) := decs_at bnd_x32_3 4 (x := (127, .invokestatic 74, 3)) rfl
theorem dX3_tellObject_130 : decode cX3_tellObject 130 = .ok (.ifCond .eq 29, 3) := decs_at bnd_x32_3 5 (x := (130, .ifCond .eq 29, 3)) rfl
theorem dX3_tellObject_133 : decode cX3_tellObject 133 = .ok (.lload 4, 2) := decs_at bnd_x32_3 6 (x := (133, .lload 4, 2)) rfl
theorem dX3_tellObject_135 : decode cX3_tellObject 135 = .ok (.ldc2_w 82, 3) := decs_at bnd_x32_3 7 (x := (135, .ldc2_w 82, 3)) rfl
theorem dX3_tellObject_138 : decode cX3_tellObject 138 = .ok (.lcmp, 1) := decs_at bnd_x32_3 8 (x := (138, .lcmp, 1)) rfl
theorem dX3_tellObject_139 : decode cX3_tellObject 139 = .ok (.ifCond .eq 35, 3) := decs_at bnd_x32_3 9 (x := (139, .ifCond .eq 35, 3)) rfl
theorem dX3_tellObject_142 : decode cX3_tellObject 142 = .ok (.aload_n 0, 1) := decs_at bnd_x32_3 10 (x := (142, .aload_n 0, 1)) rfl
theorem dX3_tellObject_143 : decode cX3_tellObject 143 = .ok (.iload_n 1, 1) := decs_at bnd_x32_3 11 (x := (143, .iload_n 1, 1)) rfl
theorem dX3_tellObject_144 : decode cX3_tellObject 144 = .ok (.iload_n 3, 1) := decs_at bnd_x32_3 12 (x := (144, .iload_n 3, 1)) rfl
theorem dX3_tellObject_145 : decode cX3_tellObject 145 = .ok (.aload_n 0, 1) := decs_at bnd_x32_3 13 (x := (145, .aload_n 0, 1)) rfl
theorem dX3_tellObject_146 : decode cX3_tellObject 146 = .ok (.lload 4, 2) := decs_at bnd_x32_3 14 (x := (146, .lload 4, 2)) rfl
theorem dX3_tellObject_148 : decode cX3_tellObject 148 = .ok (.l2i, 1) := decs_at bnd_x32_3 15 (x := (148, .l2i, 1)) rfl
theorem dX3_tellObject_149 : decode cX3_tellObject 149 = .ok (.invokevirtual 170, 3) := decs_at bnd_x32_3 16 (x := (149, .invokevirtual 170, 3)) rfl
theorem dX3_tellObject_152 : decode cX3_tellObject 152 = .ok (.i2l, 1) := decs_at bnd_x32_3 17 (x := (152, .i2l, 1)) rfl
theorem dX3_tellObject_153 : decode cX3_tellObject 153 = .ok (.invokevirtual 177, 3) := decs_at bnd_x32_3 18 (x := (153, .invokevirtual 177, 3)) rfl
theorem dX3_tellObject_156 : decode cX3_tellObject 156 = .ok (.goto 18, 3) := decs_at bnd_x32_3 19 (x := (156, .goto 18, 3)) rfl
theorem dX3_tellObject_159 : decode cX3_tellObject 159 = .ok (.lload 4, 2) := decs_at bnd_x32_3 20 (x := (159, .lload 4, 2)) rfl
theorem dX3_tellObject_161 : decode cX3_tellObject 161 = .ok (.lconst 0, 1) := decs_at bnd_x32_3 21 (x := (161, .lconst 0, 1)) rfl
theorem dX3_tellObject_162 : decode cX3_tellObject 162 = .ok (.lcmp, 1) := decs_at bnd_x32_3 22 (x := (162, .lcmp, 1)) rfl
theorem dX3_tellObject_163 : decode cX3_tellObject 163 = .ok (.ifCond .eq 11, 3) := decs_at bnd_x32_3 23 (x := (163, .ifCond .eq 11, 3)) rfl
theorem bnd_x32_4 : decs cX3_tellObject [(166, .aload_n 0, 1), (167, .iload_n 1, 1), (168, .iload_n 3, 1), (169, .lload 4, 2), (171, .invokevirtual 177, 3), (174, .iinc 3 1, 3), (177, .goto (-162), 3), (180, .return_, 1)] = true := by decide +kernel
theorem dX3_tellObject_166 : decode cX3_tellObject 166 = .ok (.aload_n 0, 1) := decs_at bnd_x32_4 0 (x := (166, .aload_n 0, 1)) rfl
theorem dX3_tellObject_167 : decode cX3_tellObject 167 = .ok (.iload_n 1, 1) := decs_at bnd_x32_4 1 (x := (167, .iload_n 1, 1)) rfl
theorem dX3_tellObject_168 : decode cX3_tellObject 168 = .ok (.iload_n 3, 1) := decs_at bnd_x32_4 2 (x := (168, .iload_n 3, 1)) rfl
theorem dX3_tellObject_169 : decode cX3_tellObject 169 = .ok (.lload 4, 2) := decs_at bnd_x32_4 3 (x := (169, .lload 4, 2)) rfl
theorem dX3_tellObject_171 : decode cX3_tellObject 171 = .ok (.invokevirtual 177, 3) := decs_at bnd_x32_4 4 (x := (171, .invokevirtual 177, 3)) rfl
theorem dX3_tellObject_174 : decode cX3_tellObject 174 = .ok (.iinc 3 1, 3) := decs_at bnd_x32_4 5 (x := (174, .iinc 3 1, 3)) rfl
theorem dX3_tellObject_177 : decode cX3_tellObject 177 = .ok (.goto (-162), 3) := decs_at bnd_x32_4 6 (x := (177, .goto (-162), 3)) rfl
theorem dX3_tellObject_180 : decode cX3_tellObject 180 = .ok (.return_, 1) := decs_at bnd_x32_4 7 (x := (180, .return_, 1)) rfl
set_option maxRecDepth 20000 in
theorem ggX3_leaves_X3_isSlot : GoodIn wsX3_leaves wsX3_isSlot := goodIn_r _ [13, 14, 15, 16, 12, 17] rfl (by decide +kernel)
set_option maxRecDepth 20000 in
theorem gX3_leaves_X3_isSlot : GoodIn wsX3_leaves (va_wsS RX3 84 yX3_isSlot wsX3_isSlot) := goodIn_app (goodIn_r _ [10, 11, 12] rfl (by decide +kernel)) ggX3_leaves_X3_isSlot
set_option maxRecDepth 20000 in
theorem ggX3_leaves_X3_find : GoodIn wsX3_leaves wsX3_find := goodIn_r _ [21, 22, 23, 2, 24, 25, 26, 27, 28, 12, 29, 30, 31, 32, 33, 34, 35, 36, 37, 38, 39, 40, 41, 42, 43, 44, 45, 46, 47, 5, 7, 9, 48, 49, 50, 51, 52, 53, 54, 55, 56, 57, 58, 59, 60, 61, 62, 63, 64, 65, 66, 67, 68, 69, 70] rfl (by decide +kernel)
set_option maxRecDepth 20000 in
theorem gX3_leaves_X3_find : GoodIn wsX3_leaves (wsV RX3 181 RX3 yX3_find wsX3_find) := goodIn_app (goodIn_r _ [18, 19, 20, 12] rfl (by decide +kernel)) ggX3_leaves_X3_find
theorem bnd_x32_5 : decs cX3_leaves [(0, .iload_n 1, 1), (1, .invokestatic 84, 3), (4, .ifCond .ne 5, 3), (7, .iconst (-1), 1), (8, .ireturn, 1), (9, .aload_n 0, 1), (10, .getfield 7, 3), (13, .iload_n 1, 1), (14, .iaload, 1), (15, .iconst (-1), 1), (16, .if_icmp .ne 6, 3), (19, .bipush (-11), 2), (21, .ireturn, 1), (22, .aload_n 0, 1), (23, .aload_n 0, 1), (24, .getfield 7, 3), (27, .iload_n 1, 1), (28, .iaload, 1), (29, .invokevirtual 181, 3), (32, .ifCond .ne 6, 3), (35, .bipush (-3), 2), (37, .ireturn, 1), (38, .aload_n 0, 1), (39, .aload_n 0, 1)] = true := by decide +kernel
theorem dX3_leaves_0 : decode cX3_leaves 0 = .ok (.iload_n 1, 1) := decs_at bnd_x32_5 0 (x := (0, .iload_n 1, 1)) rfl
theorem dX3_leaves_1 : decode cX3_leaves 1 = .ok (.invokestatic 84, 3) := decs_at bnd_x32_5 1 (x := (1, .invokestatic 84, 3)) rfl
theorem dX3_leaves_4 : decode cX3_leaves 4 = .ok (.ifCond .ne 5, 3) := decs_at bnd_x32_5 2 (x := (4, .ifCond .ne 5, 3)) rfl
theorem dX3_leaves_7 : decode cX3_leaves 7 = .ok (.iconst (-1), 1) := decs_at bnd_x32_5 3 (x := (7, .iconst (-1), 1)) rfl
theorem dX3_leaves_8 : decode cX3_leaves 8 = .ok (.ireturn, 1) := decs_at bnd_x32_5 4 (x := (8, .ireturn, 1)) rfl
theorem dX3_leaves_9 : decode cX3_leaves 9 = .ok (.aload_n 0, 1) := decs_at bnd_x32_5 5 (x := (9, .aload_n 0, 1)) rfl
theorem dX3_leaves_10 : decode cX3_leaves 10 = .ok (.getfield 7, 3) := decs_at bnd_x32_5 6 (x := (10, .getfield 7, 3)) rfl
theorem dX3_leaves_13 : decode cX3_leaves 13 = .ok (.iload_n 1, 1) := decs_at bnd_x32_5 7 (x := (13, .iload_n 1, 1)) rfl
theorem dX3_leaves_14 : decode cX3_leaves 14 = .ok (.iaload, 1) := decs_at bnd_x32_5 8 (x := (14, .iaload, 1)) rfl
theorem dX3_leaves_15 : decode cX3_leaves 15 = .ok (.iconst (-1), 1) := decs_at bnd_x32_5 9 (x := (15, .iconst (-1), 1)) rfl
theorem dX3_leaves_16 : decode cX3_leaves 16 = .ok (.if_icmp .ne 6, 3) := decs_at bnd_x32_5 10 (x := (16, .if_icmp .ne 6, 3)) rfl
theorem dX3_leaves_19 : decode cX3_leaves 19 = .ok (.bipush (-11), 2) := decs_at bnd_x32_5 11 (x := (19, .bipush (-11), 2)) rfl
theorem dX3_leaves_21 : decode cX3_leaves 21 = .ok (.ireturn, 1) := decs_at bnd_x32_5 12 (x := (21, .ireturn, 1)) rfl
theorem dX3_leaves_22 : decode cX3_leaves 22 = .ok (.aload_n 0, 1) := decs_at bnd_x32_5 13 (x := (22, .aload_n 0, 1)) rfl
theorem dX3_leaves_23 : decode cX3_leaves 23 = .ok (.aload_n 0, 1) := decs_at bnd_x32_5 14 (x := (23, .aload_n 0, 1)) rfl
theorem dX3_leaves_24 : decode cX3_leaves 24 = .ok (.getfield 7, 3) := decs_at bnd_x32_5 15 (x := (24, .getfield 7, 3)) rfl
theorem dX3_leaves_27 : decode cX3_leaves 27 = .ok (.iload_n 1, 1) := decs_at bnd_x32_5 16 (x := (27, .iload_n 1, 1)) rfl
theorem dX3_leaves_28 : decode cX3_leaves 28 = .ok (.iaload, 1) := decs_at bnd_x32_5 17 (x := (28, .iaload, 1)) rfl
theorem dX3_leaves_29 : decode cX3_leaves 29 = .ok (.invokevirtual 181, 3) := decs_at bnd_x32_5 18 (x := (29, .invokevirtual 181, 3)) rfl
theorem dX3_leaves_32 : decode cX3_leaves 32 = .ok (.ifCond .ne 6, 3) := decs_at bnd_x32_5 19 (x := (32, .ifCond .ne 6, 3)) rfl
theorem dX3_leaves_35 : decode cX3_leaves 35 = .ok (.bipush (-3), 2) := decs_at bnd_x32_5 20 (x := (35, .bipush (-3), 2)) rfl
theorem dX3_leaves_37 : decode cX3_leaves 37 = .ok (.ireturn, 1) := decs_at bnd_x32_5 21 (x := (37, .ireturn, 1)) rfl
theorem dX3_leaves_38 : decode cX3_leaves 38 = .ok (.aload_n 0, 1) := decs_at bnd_x32_5 22 (x := (38, .aload_n 0, 1)) rfl
theorem dX3_leaves_39 : decode cX3_leaves 39 = .ok (.aload_n 0, 1) := decs_at bnd_x32_5 23 (x := (39, .aload_n 0, 1)) rfl
theorem bnd_x32_6 : decs cX3_leaves [(40, .getfield 160, 3), (43, .putfield 184, 3), (46, .iconst 0, 1), (47, .istore_n 2, 1), (48, .iload_n 2, 1), (49, .aload_n 0, 1), (50, .getfield 160, 3), (53, .if_icmp .ge 45, 3), (56, .aload_n 0, 1), (57, .getfield 35, 3), (60, .iload_n 2, 1), (61, .aload_n 0, 1), (62, .getfield 47, 3), (65, .iload_n 2, 1), (66, .iaload, 1), (67, .iastore, 1), (68, .aload_n 0, 1), (69, .getfield 38, 3), (72, .iload_n 2, 1), (73, .aload_n 0, 1), (74, .getfield 50, 3), (77, .iload_n 2, 1), (78, .iaload, 1), (79, .iastore, 1)] = true := by decide +kernel
theorem dX3_leaves_40 : decode cX3_leaves 40 = .ok (.getfield 160, 3) := decs_at bnd_x32_6 0 (x := (40, .getfield 160, 3)) rfl
theorem dX3_leaves_43 : decode cX3_leaves 43 = .ok (.putfield 184, 3) := decs_at bnd_x32_6 1 (x := (43, .putfield 184, 3)) rfl
theorem dX3_leaves_46 : decode cX3_leaves 46 = .ok (.iconst 0, 1) := decs_at bnd_x32_6 2 (x := (46, .iconst 0, 1)) rfl
theorem dX3_leaves_47 : decode cX3_leaves 47 = .ok (.istore_n 2, 1) := decs_at bnd_x32_6 3 (x := (47, .istore_n 2, 1)) rfl
theorem dX3_leaves_48 : decode cX3_leaves 48 = .ok (.iload_n 2, 1) := decs_at bnd_x32_6 4 (x := (48, .iload_n 2, 1)) rfl
theorem dX3_leaves_49 : decode cX3_leaves 49 = .ok (.aload_n 0, 1) := decs_at bnd_x32_6 5 (x := (49, .aload_n 0, 1)) rfl
theorem dX3_leaves_50 : decode cX3_leaves 50 = .ok (.getfield 160, 3) := decs_at bnd_x32_6 6 (x := (50, .getfield 160, 3)) rfl
theorem dX3_leaves_53 : decode cX3_leaves 53 = .ok (.if_icmp .ge 45, 3) := decs_at bnd_x32_6 7 (x := (53, .if_icmp .ge 45, 3)) rfl
theorem dX3_leaves_56 : decode cX3_leaves 56 = .ok (.aload_n 0, 1) := decs_at bnd_x32_6 8 (x := (56, .aload_n 0, 1)) rfl
theorem dX3_leaves_57 : decode cX3_leaves 57 = .ok (.getfield 35, 3) := decs_at bnd_x32_6 9 (x := (57, .getfield 35, 3)) rfl
theorem dX3_leaves_60 : decode cX3_leaves 60 = .ok (.iload_n 2, 1) := decs_at bnd_x32_6 10 (x := (60, .iload_n 2, 1)) rfl
theorem dX3_leaves_61 : decode cX3_leaves 61 = .ok (.aload_n 0, 1) := decs_at bnd_x32_6 11 (x := (61, .aload_n 0, 1)) rfl
theorem dX3_leaves_62 : decode cX3_leaves 62 = .ok (.getfield 47, 3) := decs_at bnd_x32_6 12 (x := (62, .getfield 47, 3)) rfl
theorem dX3_leaves_65 : decode cX3_leaves 65 = .ok (.iload_n 2, 1) := decs_at bnd_x32_6 13 (x := (65, .iload_n 2, 1)) rfl
theorem dX3_leaves_66 : decode cX3_leaves 66 = .ok (.iaload, 1) := decs_at bnd_x32_6 14 (x := (66, .iaload, 1)) rfl
theorem dX3_leaves_67 : decode cX3_leaves 67 = .ok (.iastore, 1) := decs_at bnd_x32_6 15 (x := (67, .iastore, 1)) rfl
theorem dX3_leaves_68 : decode cX3_leaves 68 = .ok (.aload_n 0, 1) := decs_at bnd_x32_6 16 (x := (68, .aload_n 0, 1)) rfl
theorem dX3_leaves_69 : decode cX3_leaves 69 = .ok (.getfield 38, 3) := decs_at bnd_x32_6 17 (x := (69, .getfield 38, 3)) rfl
theorem dX3_leaves_72 : decode cX3_leaves 72 = .ok (.iload_n 2, 1) := decs_at bnd_x32_6 18 (x := (72, .iload_n 2, 1)) rfl
theorem dX3_leaves_73 : decode cX3_leaves 73 = .ok (.aload_n 0, 1) := decs_at bnd_x32_6 19 (x := (73, .aload_n 0, 1)) rfl
theorem dX3_leaves_74 : decode cX3_leaves 74 = .ok (.getfield 50, 3) := decs_at bnd_x32_6 20 (x := (74, .getfield 50, 3)) rfl
theorem dX3_leaves_77 : decode cX3_leaves 77 = .ok (.iload_n 2, 1) := decs_at bnd_x32_6 21 (x := (77, .iload_n 2, 1)) rfl
theorem dX3_leaves_78 : decode cX3_leaves 78 = .ok (.iaload, 1) := decs_at bnd_x32_6 22 (x := (78, .iaload, 1)) rfl
theorem dX3_leaves_79 : decode cX3_leaves 79 = .ok (.iastore, 1) := decs_at bnd_x32_6 23 (x := (79, .iastore, 1)) rfl
theorem bnd_x32_7 : decs cX3_leaves [(80, .aload_n 0, 1), (81, .getfield 41, 3), (84, .iload_n 2, 1), (85, .aload_n 0, 1), (86, .getfield 53, 3), (89, .iload_n 2, 1), (90, .laload, 1), (91, .lastore, 1), (92, .iinc 2 1, 3), (95, .goto (-47), 3), (98, .aload_n 0, 1), (99, .getfield 184, 3), (102, .ireturn, 1)] = true := by decide +kernel
theorem dX3_leaves_80 : decode cX3_leaves 80 = .ok (.aload_n 0, 1) := decs_at bnd_x32_7 0 (x := (80, .aload_n 0, 1)) rfl
theorem dX3_leaves_81 : decode cX3_leaves 81 = .ok (.getfield 41, 3) := decs_at bnd_x32_7 1 (x := (81, .getfield 41, 3)) rfl
theorem dX3_leaves_84 : decode cX3_leaves 84 = .ok (.iload_n 2, 1) := decs_at bnd_x32_7 2 (x := (84, .iload_n 2, 1)) rfl
theorem dX3_leaves_85 : decode cX3_leaves 85 = .ok (.aload_n 0, 1) := decs_at bnd_x32_7 3 (x := (85, .aload_n 0, 1)) rfl
theorem dX3_leaves_86 : decode cX3_leaves 86 = .ok (.getfield 53, 3) := decs_at bnd_x32_7 4 (x := (86, .getfield 53, 3)) rfl
theorem dX3_leaves_89 : decode cX3_leaves 89 = .ok (.iload_n 2, 1) := decs_at bnd_x32_7 5 (x := (89, .iload_n 2, 1)) rfl
theorem dX3_leaves_90 : decode cX3_leaves 90 = .ok (.laload, 1) := decs_at bnd_x32_7 6 (x := (90, .laload, 1)) rfl
theorem dX3_leaves_91 : decode cX3_leaves 91 = .ok (.lastore, 1) := decs_at bnd_x32_7 7 (x := (91, .lastore, 1)) rfl
theorem dX3_leaves_92 : decode cX3_leaves 92 = .ok (.iinc 2 1, 3) := decs_at bnd_x32_7 8 (x := (92, .iinc 2 1, 3)) rfl
theorem dX3_leaves_95 : decode cX3_leaves 95 = .ok (.goto (-47), 3) := decs_at bnd_x32_7 9 (x := (95, .goto (-47), 3)) rfl
theorem dX3_leaves_98 : decode cX3_leaves 98 = .ok (.aload_n 0, 1) := decs_at bnd_x32_7 10 (x := (98, .aload_n 0, 1)) rfl
theorem dX3_leaves_99 : decode cX3_leaves 99 = .ok (.getfield 184, 3) := decs_at bnd_x32_7 11 (x := (99, .getfield 184, 3)) rfl
theorem dX3_leaves_102 : decode cX3_leaves 102 = .ok (.ireturn, 1) := decs_at bnd_x32_7 12 (x := (102, .ireturn, 1)) rfl
set_option maxRecDepth 20000 in
theorem ggX3_leaf_X3_in : GoodIn wsX3_leaf wsX3_in := goodIn_r _ [10] rfl (by decide +kernel)
set_option maxRecDepth 20000 in
theorem gX3_leaf_X3_in : GoodIn wsX3_leaf (va_wsS RX3 70 yX3_in wsX3_in) := goodIn_app (goodIn_r _ [7, 8, 9] rfl (by decide +kernel)) ggX3_leaf_X3_in
theorem bnd_x32_8 : decs cX3_leaf [(0, .iload_n 1, 1), (1, .i2l, 1), (2, .lconst 0, 1), (3, .aload_n 0, 1), (4, .getfield 184, 3), (7, .iconst 1, 1), (8, .isub, 1), (9, .i2l, 1), (10, .invokestatic 70, 3), (13, .ifCond .eq 15, 3), (16, .iload_n 2, 1), (17, .i2l, 1), (18, .lconst 0, 1), (19, .ldc2_w 142, 3), (22, .invokestatic 70, 3), (25, .ifCond .ne 7, 3), (28, .ldc2_w 82, 3), (31, .lreturn, 1), (32, .iload_n 2, 1), (33, .ifCond .ne 13, 3), (36, .aload_n 0, 1), (37, .getfield 35, 3), (40, .iload_n 1, 1), (41, .iaload, 1)] = true := by decide +kernel
theorem dX3_leaf_0 : decode cX3_leaf 0 = .ok (.iload_n 1, 1) := decs_at bnd_x32_8 0 (x := (0, .iload_n 1, 1)) rfl
theorem dX3_leaf_1 : decode cX3_leaf 1 = .ok (.i2l, 1) := decs_at bnd_x32_8 1 (x := (1, .i2l, 1)) rfl
theorem dX3_leaf_2 : decode cX3_leaf 2 = .ok (.lconst 0, 1) := decs_at bnd_x32_8 2 (x := (2, .lconst 0, 1)) rfl
theorem dX3_leaf_3 : decode cX3_leaf 3 = .ok (.aload_n 0, 1) := decs_at bnd_x32_8 3 (x := (3, .aload_n 0, 1)) rfl
theorem dX3_leaf_4 : decode cX3_leaf 4 = .ok (.getfield 184, 3) := decs_at bnd_x32_8 4 (x := (4, .getfield 184, 3)) rfl
theorem dX3_leaf_7 : decode cX3_leaf 7 = .ok (.iconst 1, 1) := decs_at bnd_x32_8 5 (x := (7, .iconst 1, 1)) rfl
theorem dX3_leaf_8 : decode cX3_leaf 8 = .ok (.isub, 1) := decs_at bnd_x32_8 6 (x := (8, .isub, 1)) rfl
theorem dX3_leaf_9 : decode cX3_leaf 9 = .ok (.i2l, 1) := decs_at bnd_x32_8 7 (x := (9, .i2l, 1)) rfl
theorem dX3_leaf_10 : decode cX3_leaf 10 = .ok (.invokestatic 70, 3) := decs_at bnd_x32_8 8 (x := (10, .invokestatic 70, 3)) rfl
theorem dX3_leaf_13 : decode cX3_leaf 13 = .ok (.ifCond .eq 15, 3) := decs_at bnd_x32_8 9 (x := (13, .ifCond .eq 15, 3)) rfl
theorem dX3_leaf_16 : decode cX3_leaf 16 = .ok (.iload_n 2, 1) := decs_at bnd_x32_8 10 (x := (16, .iload_n 2, 1)) rfl
theorem dX3_leaf_17 : decode cX3_leaf 17 = .ok (.i2l, 1) := decs_at bnd_x32_8 11 (x := (17, .i2l, 1)) rfl
theorem dX3_leaf_18 : decode cX3_leaf 18 = .ok (.lconst 0, 1) := decs_at bnd_x32_8 12 (x := (18, .lconst 0, 1)) rfl
theorem dX3_leaf_19 : decode cX3_leaf 19 = .ok (.ldc2_w 142, 3) := decs_at bnd_x32_8 13 (x := (19, .ldc2_w 142, 3)) rfl
theorem dX3_leaf_22 : decode cX3_leaf 22 = .ok (.invokestatic 70, 3) := decs_at bnd_x32_8 14 (x := (22, .invokestatic 70, 3)) rfl
theorem dX3_leaf_25 : decode cX3_leaf 25 = .ok (.ifCond .ne 7, 3) := decs_at bnd_x32_8 15 (x := (25, .ifCond .ne 7, 3)) rfl
theorem dX3_leaf_28 : decode cX3_leaf 28 = .ok (.ldc2_w 82, 3) := decs_at bnd_x32_8 16 (x := (28, .ldc2_w 82, 3)) rfl
theorem dX3_leaf_31 : decode cX3_leaf 31 = .ok (.lreturn, 1) := decs_at bnd_x32_8 17 (x := (31, .lreturn, 1)) rfl
theorem dX3_leaf_32 : decode cX3_leaf 32 = .ok (.iload_n 2, 1) := decs_at bnd_x32_8 18 (x := (32, .iload_n 2, 1)) rfl
theorem dX3_leaf_33 : decode cX3_leaf 33 = .ok (.ifCond .ne 13, 3) := decs_at bnd_x32_8 19 (x := (33, .ifCond .ne 13, 3)) rfl
theorem dX3_leaf_36 : decode cX3_leaf 36 = .ok (.aload_n 0, 1) := decs_at bnd_x32_8 20 (x := (36, .aload_n 0, 1)) rfl
theorem dX3_leaf_37 : decode cX3_leaf 37 = .ok (.getfield 35, 3) := decs_at bnd_x32_8 21 (x := (37, .getfield 35, 3)) rfl
theorem dX3_leaf_40 : decode cX3_leaf 40 = .ok (.iload_n 1, 1) := decs_at bnd_x32_8 22 (x := (40, .iload_n 1, 1)) rfl
theorem dX3_leaf_41 : decode cX3_leaf 41 = .ok (.iaload, 1) := decs_at bnd_x32_8 23 (x := (41, .iaload, 1)) rfl
theorem bnd_x32_9 : decs cX3_leaf [(42, .i2l, 1), (43, .goto 24, 3), (46, .iload_n 2, 1), (47, .iconst 1, 1), (48, .if_icmp .ne 13, 3), (51, .aload_n 0, 1), (52, .getfield 38, 3), (55, .iload_n 1, 1), (56, .iaload, 1), (57, .i2l, 1), (58, .goto 9, 3), (61, .aload_n 0, 1), (62, .getfield 41, 3), (65, .iload_n 1, 1), (66, .laload, 1), (67, .lreturn, 1)] = true := by decide +kernel
theorem dX3_leaf_42 : decode cX3_leaf 42 = .ok (.i2l, 1) := decs_at bnd_x32_9 0 (x := (42, .i2l, 1)) rfl
theorem dX3_leaf_43 : decode cX3_leaf 43 = .ok (.goto 24, 3) := decs_at bnd_x32_9 1 (x := (43, .goto 24, 3)) rfl
theorem dX3_leaf_46 : decode cX3_leaf 46 = .ok (.iload_n 2, 1) := decs_at bnd_x32_9 2 (x := (46, .iload_n 2, 1)) rfl
theorem dX3_leaf_47 : decode cX3_leaf 47 = .ok (.iconst 1, 1) := decs_at bnd_x32_9 3 (x := (47, .iconst 1, 1)) rfl
theorem dX3_leaf_48 : decode cX3_leaf 48 = .ok (.if_icmp .ne 13, 3) := decs_at bnd_x32_9 4 (x := (48, .if_icmp .ne 13, 3)) rfl
theorem dX3_leaf_51 : decode cX3_leaf 51 = .ok (.aload_n 0, 1) := decs_at bnd_x32_9 5 (x := (51, .aload_n 0, 1)) rfl
theorem dX3_leaf_52 : decode cX3_leaf 52 = .ok (.getfield 38, 3) := decs_at bnd_x32_9 6 (x := (52, .getfield 38, 3)) rfl
theorem dX3_leaf_55 : decode cX3_leaf 55 = .ok (.iload_n 1, 1) := decs_at bnd_x32_9 7 (x := (55, .iload_n 1, 1)) rfl
theorem dX3_leaf_56 : decode cX3_leaf 56 = .ok (.iaload, 1) := decs_at bnd_x32_9 8 (x := (56, .iaload, 1)) rfl
theorem dX3_leaf_57 : decode cX3_leaf 57 = .ok (.i2l, 1) := decs_at bnd_x32_9 9 (x := (57, .i2l, 1)) rfl
theorem dX3_leaf_58 : decode cX3_leaf 58 = .ok (.goto 9, 3) := decs_at bnd_x32_9 10 (x := (58, .goto 9, 3)) rfl
theorem dX3_leaf_61 : decode cX3_leaf 61 = .ok (.aload_n 0, 1) := decs_at bnd_x32_9 11 (x := (61, .aload_n 0, 1)) rfl
theorem dX3_leaf_62 : decode cX3_leaf 62 = .ok (.getfield 41, 3) := decs_at bnd_x32_9 12 (x := (62, .getfield 41, 3)) rfl
theorem dX3_leaf_65 : decode cX3_leaf 65 = .ok (.iload_n 1, 1) := decs_at bnd_x32_9 13 (x := (65, .iload_n 1, 1)) rfl
theorem dX3_leaf_66 : decode cX3_leaf 66 = .ok (.laload, 1) := decs_at bnd_x32_9 14 (x := (66, .laload, 1)) rfl
theorem dX3_leaf_67 : decode cX3_leaf 67 = .ok (.lreturn, 1) := decs_at bnd_x32_9 15 (x := (67, .lreturn, 1)) rfl
set_option maxRecDepth 20000 in
theorem ggX3_alter_X3_in : GoodIn wsX3_alter wsX3_in := goodIn_r _ [7] rfl (by decide +kernel)
set_option maxRecDepth 20000 in
theorem gX3_alter_X3_in : GoodIn wsX3_alter (va_wsS RX3 70 yX3_in wsX3_in) := goodIn_app (goodIn_r _ [4, 5, 6] rfl (by decide +kernel)) ggX3_alter_X3_in
theorem bnd_x32_10 : decs cX3_alter [(0, .iload_n 1, 1), (1, .i2l, 1), (2, .lconst 0, 1), (3, .aload_n 0, 1), (4, .getfield 184, 3), (7, .iconst 1, 1), (8, .isub, 1), (9, .i2l, 1), (10, .invokestatic 70, 3), (13, .ifCond .eq 24, 3), (16, .aload_n 0, 1), (17, .getfield 38, 3), (20, .iload_n 1, 1), (21, .iaload, 1), (22, .iconst (-1), 1), (23, .if_icmp .eq 14, 3), (26, .aload_n 0, 1), (27, .getfield 38, 3), (30, .iload_n 1, 1), (31, .iaload, 1), (32, .bipush 9, 2), (34, .if_icmp .ne 5, 3), (37, .iconst (-1), 1), (38, .ireturn, 1)] = true := by decide +kernel
theorem dX3_alter_0 : decode cX3_alter 0 = .ok (.iload_n 1, 1) := decs_at bnd_x32_10 0 (x := (0, .iload_n 1, 1)) rfl
theorem dX3_alter_1 : decode cX3_alter 1 = .ok (.i2l, 1) := decs_at bnd_x32_10 1 (x := (1, .i2l, 1)) rfl
theorem dX3_alter_2 : decode cX3_alter 2 = .ok (.lconst 0, 1) := decs_at bnd_x32_10 2 (x := (2, .lconst 0, 1)) rfl
theorem dX3_alter_3 : decode cX3_alter 3 = .ok (.aload_n 0, 1) := decs_at bnd_x32_10 3 (x := (3, .aload_n 0, 1)) rfl
theorem dX3_alter_4 : decode cX3_alter 4 = .ok (.getfield 184, 3) := decs_at bnd_x32_10 4 (x := (4, .getfield 184, 3)) rfl
theorem dX3_alter_7 : decode cX3_alter 7 = .ok (.iconst 1, 1) := decs_at bnd_x32_10 5 (x := (7, .iconst 1, 1)) rfl
theorem dX3_alter_8 : decode cX3_alter 8 = .ok (.isub, 1) := decs_at bnd_x32_10 6 (x := (8, .isub, 1)) rfl
theorem dX3_alter_9 : decode cX3_alter 9 = .ok (.i2l, 1) := decs_at bnd_x32_10 7 (x := (9, .i2l, 1)) rfl
theorem dX3_alter_10 : decode cX3_alter 10 = .ok (.invokestatic 70, 3) := decs_at bnd_x32_10 8 (x := (10, .invokestatic 70, 3)) rfl
theorem dX3_alter_13 : decode cX3_alter 13 = .ok (.ifCond .eq 24, 3) := decs_at bnd_x32_10 9 (x := (13, .ifCond .eq 24, 3)) rfl
theorem dX3_alter_16 : decode cX3_alter 16 = .ok (.aload_n 0, 1) := decs_at bnd_x32_10 10 (x := (16, .aload_n 0, 1)) rfl
theorem dX3_alter_17 : decode cX3_alter 17 = .ok (.getfield 38, 3) := decs_at bnd_x32_10 11 (x := (17, .getfield 38, 3)) rfl
theorem dX3_alter_20 : decode cX3_alter 20 = .ok (.iload_n 1, 1) := decs_at bnd_x32_10 12 (x := (20, .iload_n 1, 1)) rfl
theorem dX3_alter_21 : decode cX3_alter 21 = .ok (.iaload, 1) := decs_at bnd_x32_10 13 (x := (21, .iaload, 1)) rfl
theorem dX3_alter_22 : decode cX3_alter 22 = .ok (.iconst (-1), 1) := decs_at bnd_x32_10 14 (x := (22, .iconst (-1), 1)) rfl
theorem dX3_alter_23 : decode cX3_alter 23 = .ok (.if_icmp .eq 14, 3) := decs_at bnd_x32_10 15 (x := (23, .if_icmp .eq 14, 3)) rfl
theorem dX3_alter_26 : decode cX3_alter 26 = .ok (.aload_n 0, 1) := decs_at bnd_x32_10 16 (x := (26, .aload_n 0, 1)) rfl
theorem dX3_alter_27 : decode cX3_alter 27 = .ok (.getfield 38, 3) := decs_at bnd_x32_10 17 (x := (27, .getfield 38, 3)) rfl
theorem dX3_alter_30 : decode cX3_alter 30 = .ok (.iload_n 1, 1) := decs_at bnd_x32_10 18 (x := (30, .iload_n 1, 1)) rfl
theorem dX3_alter_31 : decode cX3_alter 31 = .ok (.iaload, 1) := decs_at bnd_x32_10 19 (x := (31, .iaload, 1)) rfl
theorem dX3_alter_32 : decode cX3_alter 32 = .ok (.bipush 9, 2) := decs_at bnd_x32_10 20 (x := (32, .bipush 9, 2)) rfl
theorem dX3_alter_34 : decode cX3_alter 34 = .ok (.if_icmp .ne 5, 3) := decs_at bnd_x32_10 21 (x := (34, .if_icmp .ne 5, 3)) rfl
theorem dX3_alter_37 : decode cX3_alter 37 = .ok (.iconst (-1), 1) := decs_at bnd_x32_10 22 (x := (37, .iconst (-1), 1)) rfl
theorem dX3_alter_38 : decode cX3_alter 38 = .ok (.ireturn, 1) := decs_at bnd_x32_10 23 (x := (38, .ireturn, 1)) rfl
theorem bnd_x32_11 : decs cX3_alter [(39, .aload_n 0, 1), (40, .getfield 41, 3), (43, .iload_n 1, 1), (44, .lload_n 2, 1), (45, .lastore, 1), (46, .iconst 1, 1), (47, .ireturn, 1)] = true := by decide +kernel
theorem dX3_alter_39 : decode cX3_alter 39 = .ok (.aload_n 0, 1) := decs_at bnd_x32_11 0 (x := (39, .aload_n 0, 1)) rfl
theorem dX3_alter_40 : decode cX3_alter 40 = .ok (.getfield 41, 3) := decs_at bnd_x32_11 1 (x := (40, .getfield 41, 3)) rfl
theorem dX3_alter_43 : decode cX3_alter 43 = .ok (.iload_n 1, 1) := decs_at bnd_x32_11 2 (x := (43, .iload_n 1, 1)) rfl
theorem dX3_alter_44 : decode cX3_alter 44 = .ok (.lload_n 2, 1) := decs_at bnd_x32_11 3 (x := (44, .lload_n 2, 1)) rfl
theorem dX3_alter_45 : decode cX3_alter 45 = .ok (.lastore, 1) := decs_at bnd_x32_11 4 (x := (45, .lastore, 1)) rfl
theorem dX3_alter_46 : decode cX3_alter 46 = .ok (.iconst 1, 1) := decs_at bnd_x32_11 5 (x := (46, .iconst 1, 1)) rfl
theorem dX3_alter_47 : decode cX3_alter 47 = .ok (.ireturn, 1) := decs_at bnd_x32_11 6 (x := (47, .ireturn, 1)) rfl
theorem bnd_x32_12 : decs cX3_told [(0, .iconst 0, 1), (1, .istore_n 3, 1), (2, .iload_n 3, 1), (3, .aload_n 0, 1), (4, .getfield 184, 3), (7, .if_icmp .ge 36, 3), (10, .aload_n 0, 1), (11, .getfield 35, 3), (14, .iload_n 3, 1), (15, .iaload, 1), (16, .iload_n 1, 1), (17, .if_icmp .ne 20, 3), (20, .aload_n 0, 1), (21, .getfield 38, 3), (24, .iload_n 3, 1), (25, .iaload, 1), (26, .iload_n 2, 1), (27, .if_icmp .ne 10, 3), (30, .aload_n 0, 1), (31, .getfield 41, 3), (34, .iload_n 3, 1), (35, .laload, 1), (36, .lreturn, 1), (37, .iinc 3 1, 3)] = true := by decide +kernel
theorem dX3_told_0 : decode cX3_told 0 = .ok (.iconst 0, 1) := decs_at bnd_x32_12 0 (x := (0, .iconst 0, 1)) rfl
theorem dX3_told_1 : decode cX3_told 1 = .ok (.istore_n 3, 1) := decs_at bnd_x32_12 1 (x := (1, .istore_n 3, 1)) rfl
theorem dX3_told_2 : decode cX3_told 2 = .ok (.iload_n 3, 1) := decs_at bnd_x32_12 2 (x := (2, .iload_n 3, 1)) rfl
theorem dX3_told_3 : decode cX3_told 3 = .ok (.aload_n 0, 1) := decs_at bnd_x32_12 3 (x := (3, .aload_n 0, 1)) rfl
theorem dX3_told_4 : decode cX3_told 4 = .ok (.getfield 184, 3) := decs_at bnd_x32_12 4 (x := (4, .getfield 184, 3)) rfl
theorem dX3_told_7 : decode cX3_told 7 = .ok (.if_icmp .ge 36, 3) := decs_at bnd_x32_12 5 (x := (7, .if_icmp .ge 36, 3)) rfl
theorem dX3_told_10 : decode cX3_told 10 = .ok (.aload_n 0, 1) := decs_at bnd_x32_12 6 (x := (10, .aload_n 0, 1)) rfl
theorem dX3_told_11 : decode cX3_told 11 = .ok (.getfield 35, 3) := decs_at bnd_x32_12 7 (x := (11, .getfield 35, 3)) rfl
theorem dX3_told_14 : decode cX3_told 14 = .ok (.iload_n 3, 1) := decs_at bnd_x32_12 8 (x := (14, .iload_n 3, 1)) rfl
theorem dX3_told_15 : decode cX3_told 15 = .ok (.iaload, 1) := decs_at bnd_x32_12 9 (x := (15, .iaload, 1)) rfl
theorem dX3_told_16 : decode cX3_told 16 = .ok (.iload_n 1, 1) := decs_at bnd_x32_12 10 (x := (16, .iload_n 1, 1)) rfl
theorem dX3_told_17 : decode cX3_told 17 = .ok (.if_icmp .ne 20, 3) := decs_at bnd_x32_12 11 (x := (17, .if_icmp .ne 20, 3)) rfl
theorem dX3_told_20 : decode cX3_told 20 = .ok (.aload_n 0, 1) := decs_at bnd_x32_12 12 (x := (20, .aload_n 0, 1)) rfl
theorem dX3_told_21 : decode cX3_told 21 = .ok (.getfield 38, 3) := decs_at bnd_x32_12 13 (x := (21, .getfield 38, 3)) rfl
theorem dX3_told_24 : decode cX3_told 24 = .ok (.iload_n 3, 1) := decs_at bnd_x32_12 14 (x := (24, .iload_n 3, 1)) rfl
theorem dX3_told_25 : decode cX3_told 25 = .ok (.iaload, 1) := decs_at bnd_x32_12 15 (x := (25, .iaload, 1)) rfl
theorem dX3_told_26 : decode cX3_told 26 = .ok (.iload_n 2, 1) := decs_at bnd_x32_12 16 (x := (26, .iload_n 2, 1)) rfl
theorem dX3_told_27 : decode cX3_told 27 = .ok (.if_icmp .ne 10, 3) := decs_at bnd_x32_12 17 (x := (27, .if_icmp .ne 10, 3)) rfl
theorem dX3_told_30 : decode cX3_told 30 = .ok (.aload_n 0, 1) := decs_at bnd_x32_12 18 (x := (30, .aload_n 0, 1)) rfl
theorem dX3_told_31 : decode cX3_told 31 = .ok (.getfield 41, 3) := decs_at bnd_x32_12 19 (x := (31, .getfield 41, 3)) rfl
theorem dX3_told_34 : decode cX3_told 34 = .ok (.iload_n 3, 1) := decs_at bnd_x32_12 20 (x := (34, .iload_n 3, 1)) rfl
theorem dX3_told_35 : decode cX3_told 35 = .ok (.laload, 1) := decs_at bnd_x32_12 21 (x := (35, .laload, 1)) rfl
theorem dX3_told_36 : decode cX3_told 36 = .ok (.lreturn, 1) := decs_at bnd_x32_12 22 (x := (36, .lreturn, 1)) rfl
theorem dX3_told_37 : decode cX3_told 37 = .ok (.iinc 3 1, 3) := decs_at bnd_x32_12 23 (x := (37, .iinc 3 1, 3)) rfl
theorem bnd_x32_13 : decs cX3_told [(40, .goto (-38), 3), (43, .lconst 0, 1), (44, .lreturn, 1)] = true := by decide +kernel
theorem dX3_told_40 : decode cX3_told 40 = .ok (.goto (-38), 3) := decs_at bnd_x32_13 0 (x := (40, .goto (-38), 3)) rfl
theorem dX3_told_43 : decode cX3_told 43 = .ok (.lconst 0, 1) := decs_at bnd_x32_13 1 (x := (43, .lconst 0, 1)) rfl
theorem dX3_told_44 : decode cX3_told 44 = .ok (.lreturn, 1) := decs_at bnd_x32_13 2 (x := (44, .lreturn, 1)) rfl
set_option maxRecDepth 20000 in
theorem ggX3_back_X3_isSlot : GoodIn wsX3_back wsX3_isSlot := goodIn_r _ [16, 17, 18, 19, 15, 20] rfl (by decide +kernel)
set_option maxRecDepth 20000 in
theorem gX3_back_X3_isSlot : GoodIn wsX3_back (va_wsS RX3 84 yX3_isSlot wsX3_isSlot) := goodIn_app (goodIn_r _ [13, 14, 15] rfl (by decide +kernel)) ggX3_back_X3_isSlot
set_option maxRecDepth 20000 in
theorem ggX3_back_X3_told : GoodIn wsX3_back wsX3_told := goodIn_r _ [24, 1, 2, 6, 7, 55, 56, 57, 58, 59, 60, 61, 62, 63, 64, 65, 66, 67, 68, 69, 70, 71, 72, 73, 74, 75, 76, 77] rfl (by decide +kernel)
set_option maxRecDepth 20000 in
theorem gX3_back_X3_told : GoodIn wsX3_back (wsV RX3 187 RX3 yX3_told wsX3_told) := goodIn_app (goodIn_r _ [21, 22, 23, 15] rfl (by decide +kernel)) ggX3_back_X3_told
set_option maxRecDepth 20000 in
theorem ggX3_back_X3_in : GoodIn wsX3_back wsX3_in := goodIn_r _ [20] rfl (by decide +kernel)
set_option maxRecDepth 20000 in
theorem gX3_back_X3_in : GoodIn wsX3_back (va_wsS RX3 70 yX3_in wsX3_in) := goodIn_app (goodIn_r _ [18, 19, 15] rfl (by decide +kernel)) ggX3_back_X3_in
set_option maxRecDepth 20000 in
theorem ggX3_back_X3_lookWhatIsHeld : GoodIn wsX3_back wsX3_lookWhatIsHeld := goodIn_r _ [28, 29, 12, 30, 10, 11, 31, 32, 15, 33, 34, 35, 36, 55, 56, 57, 58, 59, 60, 61, 62, 63, 64, 65, 66, 67, 68, 69, 70, 71, 72, 73, 74, 75, 76, 77] rfl (by decide +kernel)
set_option maxRecDepth 20000 in
theorem gX3_back_X3_lookWhatIsHeld : GoodIn wsX3_back (wsV RX3 91 RX3 yX3_lookWhatIsHeld wsX3_lookWhatIsHeld) := goodIn_app (goodIn_r _ [25, 26, 27, 15] rfl (by decide +kernel)) ggX3_back_X3_lookWhatIsHeld
set_option maxRecDepth 20000 in
theorem ggX3_back_X3_born : GoodIn wsX3_back wsX3_born := goodIn_r _ [40, 29, 10, 11, 41, 9, 31, 32, 15, 33, 55, 56, 57, 58, 59, 60, 61, 62, 63, 64, 65, 66, 67, 68, 69, 70, 71, 72, 73, 74, 75, 76, 77] rfl (by decide +kernel)
set_option maxRecDepth 20000 in
theorem gX3_back_X3_born : GoodIn wsX3_back (wsV RX3 94 RX3 yX3_born wsX3_born) := goodIn_app (goodIn_r _ [37, 38, 39, 15] rfl (by decide +kernel)) ggX3_back_X3_born
set_option maxRecDepth 20000 in
theorem ggX3_back_X3_isLink : GoodIn wsX3_back wsX3_isLink := goodIn_r _ [33] rfl (by decide +kernel)
set_option maxRecDepth 20000 in
theorem gX3_back_X3_isLink : GoodIn wsX3_back (va_wsS RX3 74 yX3_isLink wsX3_isLink) := goodIn_app (goodIn_r _ [31, 32, 15] rfl (by decide +kernel)) ggX3_back_X3_isLink
set_option maxRecDepth 20000 in
theorem ggX3_back_X3_mayBeIn : GoodIn wsX3_back wsX3_mayBeIn := goodIn_r _ [44] rfl (by decide +kernel)
set_option maxRecDepth 20000 in
theorem gX3_back_X3_mayBeIn : GoodIn wsX3_back (va_wsS RX3 135 yX3_mayBeIn wsX3_mayBeIn) := goodIn_app (goodIn_r _ [42, 43, 15] rfl (by decide +kernel)) ggX3_back_X3_mayBeIn
set_option maxRecDepth 20000 in
theorem ggX3_back_X3_valueOf : GoodIn wsX3_back wsX3_valueOf := goodIn_r _ [47, 48, 49, 50, 51, 52, 53, 54] rfl (by decide +kernel)
set_option maxRecDepth 20000 in
theorem gX3_back_X3_valueOf : GoodIn wsX3_back (va_wsS RX3 131 yX3_valueOf wsX3_valueOf) := goodIn_app (goodIn_r _ [45, 46, 15] rfl (by decide +kernel)) ggX3_back_X3_valueOf
theorem bnd_x32_14 : decs cX3_back [(0, .iload_n 1, 1), (1, .invokestatic 84, 3), (4, .ifCond .ne 5, 3), (7, .iconst (-1), 1), (8, .ireturn, 1), (9, .aload_n 0, 1), (10, .getfield 184, 3), (13, .ifCond .ne 6, 3), (16, .bipush (-3), 2), (18, .ireturn, 1), (19, .aload_n 0, 1), (20, .getfield 35, 3), (23, .aload_n 0, 1), (24, .getfield 184, 3), (27, .iconst 1, 1), (28, .isub, 1), (29, .iaload, 1), (30, .iconst 1, 1), (31, .iadd, 1), (32, .istore_n 2, 1), (33, .iconst 0, 1), (34, .istore_n 3, 1), (35, .iload_n 3, 1), (36, .iload_n 2, 1)] = true := by decide +kernel
theorem dX3_back_0 : decode cX3_back 0 = .ok (.iload_n 1, 1) := decs_at bnd_x32_14 0 (x := (0, .iload_n 1, 1)) rfl
theorem dX3_back_1 : decode cX3_back 1 = .ok (.invokestatic 84, 3) := decs_at bnd_x32_14 1 (x := (1, .invokestatic 84, 3)) rfl
theorem dX3_back_4 : decode cX3_back 4 = .ok (.ifCond .ne 5, 3) := decs_at bnd_x32_14 2 (x := (4, .ifCond .ne 5, 3)) rfl
theorem dX3_back_7 : decode cX3_back 7 = .ok (.iconst (-1), 1) := decs_at bnd_x32_14 3 (x := (7, .iconst (-1), 1)) rfl
theorem dX3_back_8 : decode cX3_back 8 = .ok (.ireturn, 1) := decs_at bnd_x32_14 4 (x := (8, .ireturn, 1)) rfl
theorem dX3_back_9 : decode cX3_back 9 = .ok (.aload_n 0, 1) := decs_at bnd_x32_14 5 (x := (9, .aload_n 0, 1)) rfl
theorem dX3_back_10 : decode cX3_back 10 = .ok (.getfield 184, 3) := decs_at bnd_x32_14 6 (x := (10, .getfield 184, 3)) rfl
theorem dX3_back_13 : decode cX3_back 13 = .ok (.ifCond .ne 6, 3) := decs_at bnd_x32_14 7 (x := (13, .ifCond .ne 6, 3)) rfl
theorem dX3_back_16 : decode cX3_back 16 = .ok (.bipush (-3), 2) := decs_at bnd_x32_14 8 (x := (16, .bipush (-3), 2)) rfl
theorem dX3_back_18 : decode cX3_back 18 = .ok (.ireturn, 1) := decs_at bnd_x32_14 9 (x := (18, .ireturn, 1)) rfl
theorem dX3_back_19 : decode cX3_back 19 = .ok (.aload_n 0, 1) := decs_at bnd_x32_14 10 (x := (19, .aload_n 0, 1)) rfl
theorem dX3_back_20 : decode cX3_back 20 = .ok (.getfield 35, 3) := decs_at bnd_x32_14 11 (x := (20, .getfield 35, 3)) rfl
theorem dX3_back_23 : decode cX3_back 23 = .ok (.aload_n 0, 1) := decs_at bnd_x32_14 12 (x := (23, .aload_n 0, 1)) rfl
theorem dX3_back_24 : decode cX3_back 24 = .ok (.getfield 184, 3) := decs_at bnd_x32_14 13 (x := (24, .getfield 184, 3)) rfl
theorem dX3_back_27 : decode cX3_back 27 = .ok (.iconst 1, 1) := decs_at bnd_x32_14 14 (x := (27, .iconst 1, 1)) rfl
theorem dX3_back_28 : decode cX3_back 28 = .ok (.isub, 1) := decs_at bnd_x32_14 15 (x := (28, .isub, 1)) rfl
theorem dX3_back_29 : decode cX3_back 29 = .ok (.iaload, 1) := decs_at bnd_x32_14 16 (x := (29, .iaload, 1)) rfl
theorem dX3_back_30 : decode cX3_back 30 = .ok (.iconst 1, 1) := decs_at bnd_x32_14 17 (x := (30, .iconst 1, 1)) rfl
theorem dX3_back_31 : decode cX3_back 31 = .ok (.iadd, 1) := decs_at bnd_x32_14 18 (x := (31, .iadd, 1)) rfl
theorem dX3_back_32 : decode cX3_back 32 = .ok (.istore_n 2, 1) := decs_at bnd_x32_14 19 (x := (32, .istore_n 2, 1)) rfl
theorem dX3_back_33 : decode cX3_back 33 = .ok (.iconst 0, 1) := decs_at bnd_x32_14 20 (x := (33, .iconst 0, 1)) rfl
theorem dX3_back_34 : decode cX3_back 34 = .ok (.istore_n 3, 1) := decs_at bnd_x32_14 21 (x := (34, .istore_n 3, 1)) rfl
theorem dX3_back_35 : decode cX3_back 35 = .ok (.iload_n 3, 1) := decs_at bnd_x32_14 22 (x := (35, .iload_n 3, 1)) rfl
theorem dX3_back_36 : decode cX3_back 36 = .ok (.iload_n 2, 1) := decs_at bnd_x32_14 23 (x := (36, .iload_n 2, 1)) rfl
theorem bnd_x32_15 : decs cX3_back [(37, .if_icmp .ge 44, 3), (40, .aload_n 0, 1), (41, .iload_n 3, 1), (42, .iconst (-1), 1), (43, .invokevirtual 187, 3), (46, .ldc2_w 142, 3), (49, .lcmp, 1), (50, .ifCond .ne 25, 3), (53, .aload_n 0, 1), (54, .iload_n 3, 1), (55, .bipush 13, 2), (57, .invokevirtual 187, 3), (60, .l2i, 1), (61, .i2l, 1), (62, .lconst 0, 1), (63, .ldc2_w 89, 3), (66, .invokestatic 70, 3), (69, .ifCond .ne 6, 3), (72, .bipush (-18), 2), (74, .ireturn, 1), (75, .iinc 3 1, 3), (78, .goto (-43), 3), (81, .aload_n 0, 1), (82, .invokevirtual 91, 3)] = true := by decide +kernel
theorem dX3_back_37 : decode cX3_back 37 = .ok (.if_icmp .ge 44, 3) := decs_at bnd_x32_15 0 (x := (37, .if_icmp .ge 44, 3)) rfl
theorem dX3_back_40 : decode cX3_back 40 = .ok (.aload_n 0, 1) := decs_at bnd_x32_15 1 (x := (40, .aload_n 0, 1)) rfl
theorem dX3_back_41 : decode cX3_back 41 = .ok (.iload_n 3, 1) := decs_at bnd_x32_15 2 (x := (41, .iload_n 3, 1)) rfl
theorem dX3_back_42 : decode cX3_back 42 = .ok (.iconst (-1), 1) := decs_at bnd_x32_15 3 (x := (42, .iconst (-1), 1)) rfl
theorem dX3_back_43 : decode cX3_back 43 = .ok (.invokevirtual 187, 3) := decs_at bnd_x32_15 4 (x := (43, .invokevirtual 187, 3)) rfl
theorem dX3_back_46 : decode cX3_back 46 = .ok (.ldc2_w 142, 3) := decs_at bnd_x32_15 5 (x := (46, .ldc2_w 142, 3)) rfl
theorem dX3_back_49 : decode cX3_back 49 = .ok (.lcmp, 1) := decs_at bnd_x32_15 6 (x := (49, .lcmp, 1)) rfl
theorem dX3_back_50 : decode cX3_back 50 = .ok (.ifCond .ne 25, 3) := decs_at bnd_x32_15 7 (x := (50, .ifCond .ne 25, 3)) rfl
theorem dX3_back_53 : decode cX3_back 53 = .ok (.aload_n 0, 1) := decs_at bnd_x32_15 8 (x := (53, .aload_n 0, 1)) rfl
theorem dX3_back_54 : decode cX3_back 54 = .ok (.iload_n 3, 1) := decs_at bnd_x32_15 9 (x := (54, .iload_n 3, 1)) rfl
theorem dX3_back_55 : decode cX3_back 55 = .ok (.bipush 13, 2) := decs_at bnd_x32_15 10 (x := (55, .bipush 13, 2)) rfl
theorem dX3_back_57 : decode cX3_back 57 = .ok (.invokevirtual 187, 3) := decs_at bnd_x32_15 11 (x := (57, .invokevirtual 187, 3)) rfl
theorem dX3_back_60 : decode cX3_back 60 = .ok (.l2i, 1) := decs_at bnd_x32_15 12 (x := (60, .l2i, 1)) rfl
theorem dX3_back_61 : decode cX3_back 61 = .ok (.i2l, 1) := decs_at bnd_x32_15 13 (x := (61, .i2l, 1)) rfl
theorem dX3_back_62 : decode cX3_back 62 = .ok (.lconst 0, 1) := decs_at bnd_x32_15 14 (x := (62, .lconst 0, 1)) rfl
theorem dX3_back_63 : decode cX3_back 63 = .ok (.ldc2_w 89, 3) := decs_at bnd_x32_15 15 (x := (63, .ldc2_w 89, 3)) rfl
theorem dX3_back_66 : decode cX3_back 66 = .ok (.invokestatic 70, 3) := decs_at bnd_x32_15 16 (x := (66, .invokestatic 70, 3)) rfl
theorem dX3_back_69 : decode cX3_back 69 = .ok (.ifCond .ne 6, 3) := decs_at bnd_x32_15 17 (x := (69, .ifCond .ne 6, 3)) rfl
theorem dX3_back_72 : decode cX3_back 72 = .ok (.bipush (-18), 2) := decs_at bnd_x32_15 18 (x := (72, .bipush (-18), 2)) rfl
theorem dX3_back_74 : decode cX3_back 74 = .ok (.ireturn, 1) := decs_at bnd_x32_15 19 (x := (74, .ireturn, 1)) rfl
theorem dX3_back_75 : decode cX3_back 75 = .ok (.iinc 3 1, 3) := decs_at bnd_x32_15 20 (x := (75, .iinc 3 1, 3)) rfl
theorem dX3_back_78 : decode cX3_back 78 = .ok (.goto (-43), 3) := decs_at bnd_x32_15 21 (x := (78, .goto (-43), 3)) rfl
theorem dX3_back_81 : decode cX3_back 81 = .ok (.aload_n 0, 1) := decs_at bnd_x32_15 22 (x := (81, .aload_n 0, 1)) rfl
theorem dX3_back_82 : decode cX3_back 82 = .ok (.invokevirtual 91, 3) := decs_at bnd_x32_15 23 (x := (82, .invokevirtual 91, 3)) rfl
theorem bnd_x32_16 : decs cX3_back [(85, .iconst 0, 1), (86, .istore_n 3, 1), (87, .iload_n 3, 1), (88, .iload_n 2, 1), (89, .if_icmp .ge 49, 3), (92, .aload_n 0, 1), (93, .iload_n 3, 1), (94, .iconst (-1), 1), (95, .invokevirtual 187, 3), (98, .l2i, 1), (99, .istore 4, 2), (101, .aload_n 0, 1), (102, .getfield 56, 3), (105, .iload_n 3, 1), (106, .aload_n 0, 1), (107, .iload 4, 2), (109, .aload_n 0, 1), (110, .iload_n 3, 1), (111, .iload 4, 2), (113, .iconst 2, 1), (114, .if_icmp .ne 8, 3), (117, .bipush 13, 2), (119, .goto 5, 3), (122, .bipush 16, 2)] = true := by decide +kernel
theorem dX3_back_85 : decode cX3_back 85 = .ok (.iconst 0, 1) := decs_at bnd_x32_16 0 (x := (85, .iconst 0, 1)) rfl
theorem dX3_back_86 : decode cX3_back 86 = .ok (.istore_n 3, 1) := decs_at bnd_x32_16 1 (x := (86, .istore_n 3, 1)) rfl
theorem dX3_back_87 : decode cX3_back 87 = .ok (.iload_n 3, 1) := decs_at bnd_x32_16 2 (x := (87, .iload_n 3, 1)) rfl
theorem dX3_back_88 : decode cX3_back 88 = .ok (.iload_n 2, 1) := decs_at bnd_x32_16 3 (x := (88, .iload_n 2, 1)) rfl
theorem dX3_back_89 : decode cX3_back 89 = .ok (.if_icmp .ge 49, 3) := decs_at bnd_x32_16 4 (x := (89, .if_icmp .ge 49, 3)) rfl
theorem dX3_back_92 : decode cX3_back 92 = .ok (.aload_n 0, 1) := decs_at bnd_x32_16 5 (x := (92, .aload_n 0, 1)) rfl
theorem dX3_back_93 : decode cX3_back 93 = .ok (.iload_n 3, 1) := decs_at bnd_x32_16 6 (x := (93, .iload_n 3, 1)) rfl
theorem dX3_back_94 : decode cX3_back 94 = .ok (.iconst (-1), 1) := decs_at bnd_x32_16 7 (x := (94, .iconst (-1), 1)) rfl
theorem dX3_back_95 : decode cX3_back 95 = .ok (.invokevirtual 187, 3) := decs_at bnd_x32_16 8 (x := (95, .invokevirtual 187, 3)) rfl
theorem dX3_back_98 : decode cX3_back 98 = .ok (.l2i, 1) := decs_at bnd_x32_16 9 (x := (98, .l2i, 1)) rfl
theorem dX3_back_99 : decode cX3_back 99 = .ok (.istore 4, 2) := decs_at bnd_x32_16 10 (x := (99, .istore 4, 2)) rfl
theorem dX3_back_101 : decode cX3_back 101 = .ok (.aload_n 0, 1) := decs_at bnd_x32_16 11 (x := (101, .aload_n 0, 1)) rfl
theorem dX3_back_102 : decode cX3_back 102 = .ok (.getfield 56, 3) := decs_at bnd_x32_16 12 (x := (102, .getfield 56, 3)) rfl
theorem dX3_back_105 : decode cX3_back 105 = .ok (.iload_n 3, 1) := decs_at bnd_x32_16 13 (x := (105, .iload_n 3, 1)) rfl
theorem dX3_back_106 : decode cX3_back 106 = .ok (.aload_n 0, 1) := decs_at bnd_x32_16 14 (x := (106, .aload_n 0, 1)) rfl
theorem dX3_back_107 : decode cX3_back 107 = .ok (.iload 4, 2) := decs_at bnd_x32_16 15 (x := (107, .iload 4, 2)) rfl
theorem dX3_back_109 : decode cX3_back 109 = .ok (.aload_n 0, 1) := decs_at bnd_x32_16 16 (x := (109, .aload_n 0, 1)) rfl
theorem dX3_back_110 : decode cX3_back 110 = .ok (.iload_n 3, 1) := decs_at bnd_x32_16 17 (x := (110, .iload_n 3, 1)) rfl
theorem dX3_back_111 : decode cX3_back 111 = .ok (.iload 4, 2) := decs_at bnd_x32_16 18 (x := (111, .iload 4, 2)) rfl
theorem dX3_back_113 : decode cX3_back 113 = .ok (.iconst 2, 1) := decs_at bnd_x32_16 19 (x := (113, .iconst 2, 1)) rfl
theorem dX3_back_114 : decode cX3_back 114 = .ok (.if_icmp .ne 8, 3) := decs_at bnd_x32_16 20 (x := (114, .if_icmp .ne 8, 3)) rfl
theorem dX3_back_117 : decode cX3_back 117 = .ok (.bipush 13, 2) := decs_at bnd_x32_16 21 (x := (117, .bipush 13, 2)) rfl
theorem dX3_back_119 : decode cX3_back 119 = .ok (.goto 5, 3) := decs_at bnd_x32_16 22 (x := (119, .goto 5, 3)) rfl
theorem dX3_back_122 : decode cX3_back 122 = .ok (.bipush 16, 2) := decs_at bnd_x32_16 23 (x := (122, .bipush 16, 2)) rfl
theorem bnd_x32_17 : decs cX3_back [(124, .invokevirtual 187, 3), (127, .l2i, 1), (128, .invokevirtual 94, 3), (131, .iastore, 1), (132, .iinc 3 1, 3), (135, .goto (-48), 3), (138, .iconst 0, 1), (139, .istore_n 3, 1), (140, .iload_n 3, 1), (141, .aload_n 0, 1), (142, .getfield 184, 3), (145, .if_icmp .ge 190, 3), (148, .aload_n 0, 1), (149, .getfield 56, 3), (152, .aload_n 0, 1), (153, .getfield 35, 3), (156, .iload_n 3, 1), (157, .iaload, 1), (158, .iaload, 1), (159, .istore 4, 2), (161, .aload_n 0, 1), (162, .getfield 38, 3), (165, .iload_n 3, 1), (166, .iaload, 1)] = true := by decide +kernel
theorem dX3_back_124 : decode cX3_back 124 = .ok (.invokevirtual 187, 3) := decs_at bnd_x32_17 0 (x := (124, .invokevirtual 187, 3)) rfl
theorem dX3_back_127 : decode cX3_back 127 = .ok (.l2i, 1) := decs_at bnd_x32_17 1 (x := (127, .l2i, 1)) rfl
theorem dX3_back_128 : decode cX3_back 128 = .ok (.invokevirtual 94, 3) := decs_at bnd_x32_17 2 (x := (128, .invokevirtual 94, 3)) rfl
theorem dX3_back_131 : decode cX3_back 131 = .ok (.iastore, 1) := decs_at bnd_x32_17 3 (x := (131, .iastore, 1)) rfl
theorem dX3_back_132 : decode cX3_back 132 = .ok (.iinc 3 1, 3) := decs_at bnd_x32_17 4 (x := (132, .iinc 3 1, 3)) rfl
theorem dX3_back_135 : decode cX3_back 135 = .ok (.goto (-48), 3) := decs_at bnd_x32_17 5 (x := (135, .goto (-48), 3)) rfl
theorem dX3_back_138 : decode cX3_back 138 = .ok (.iconst 0, 1) := decs_at bnd_x32_17 6 (x := (138, .iconst 0, 1)) rfl
theorem dX3_back_139 : decode cX3_back 139 = .ok (.istore_n 3, 1) := decs_at bnd_x32_17 7 (x := (139, .istore_n 3, 1)) rfl
theorem dX3_back_140 : decode cX3_back 140 = .ok (.iload_n 3, 1) := decs_at bnd_x32_17 8 (x := (140, .iload_n 3, 1)) rfl
theorem dX3_back_141 : decode cX3_back 141 = .ok (.aload_n 0, 1) := decs_at bnd_x32_17 9 (x := (141, .aload_n 0, 1)) rfl
theorem dX3_back_142 : decode cX3_back 142 = .ok (.getfield 184, 3) := decs_at bnd_x32_17 10 (x := (142, .getfield 184, 3)) rfl
theorem dX3_back_145 : decode cX3_back 145 = .ok (.if_icmp .ge 190, 3) := decs_at bnd_x32_17 11 (x := (145, .if_icmp .ge 190, 3)) rfl
theorem dX3_back_148 : decode cX3_back 148 = .ok (.aload_n 0, 1) := decs_at bnd_x32_17 12 (x := (148, .aload_n 0, 1)) rfl
theorem dX3_back_149 : decode cX3_back 149 = .ok (.getfield 56, 3) := decs_at bnd_x32_17 13 (x := (149, .getfield 56, 3)) rfl
theorem dX3_back_152 : decode cX3_back 152 = .ok (.aload_n 0, 1) := decs_at bnd_x32_17 14 (x := (152, .aload_n 0, 1)) rfl
theorem dX3_back_153 : decode cX3_back 153 = .ok (.getfield 35, 3) := decs_at bnd_x32_17 15 (x := (153, .getfield 35, 3)) rfl
theorem dX3_back_156 : decode cX3_back 156 = .ok (.iload_n 3, 1) := decs_at bnd_x32_17 16 (x := (156, .iload_n 3, 1)) rfl
theorem dX3_back_157 : decode cX3_back 157 = .ok (.iaload, 1) := decs_at bnd_x32_17 17 (x := (157, .iaload, 1)) rfl
theorem dX3_back_158 : decode cX3_back 158 = .ok (.iaload, 1) := decs_at bnd_x32_17 18 (x := (158, .iaload, 1)) rfl
theorem dX3_back_159 : decode cX3_back 159 = .ok (.istore 4, 2) := decs_at bnd_x32_17 19 (x := (159, .istore 4, 2)) rfl
theorem dX3_back_161 : decode cX3_back 161 = .ok (.aload_n 0, 1) := decs_at bnd_x32_17 20 (x := (161, .aload_n 0, 1)) rfl
theorem dX3_back_162 : decode cX3_back 162 = .ok (.getfield 38, 3) := decs_at bnd_x32_17 21 (x := (162, .getfield 38, 3)) rfl
theorem dX3_back_165 : decode cX3_back 165 = .ok (.iload_n 3, 1) := decs_at bnd_x32_17 22 (x := (165, .iload_n 3, 1)) rfl
theorem dX3_back_166 : decode cX3_back 166 = .ok (.iaload, 1) := decs_at bnd_x32_17 23 (x := (166, .iaload, 1)) rfl
theorem bnd_x32_18 : decs cX3_back [(167, .istore 5, 2), (169, .aload_n 0, 1), (170, .getfield 41, 3), (173, .iload_n 3, 1), (174, .laload, 1), (175, .lstore 6, 2), (177, .iload 5, 2), (179, .bipush 100, 2), (181, .if_icmp .lt 25, 3), (184, .aload_n 0, 1), (185, .getfield 25, 3), (188, .bipush 20, 2), (190, .iload 4, 2), (192, .imul, 1), (193, .iload 5, 2), (195, .iadd, 1), (196, .bipush 100, 2), (198, .isub, 1), (199, .lload 6, 2), (201, .l2i, 1), (202, .iastore, 1), (203, .goto 126, 3), (206, .iload 5, 2), (208, .bipush 9, 2)] = true := by decide +kernel
theorem dX3_back_167 : decode cX3_back 167 = .ok (.istore 5, 2) := decs_at bnd_x32_18 0 (x := (167, .istore 5, 2)) rfl
theorem dX3_back_169 : decode cX3_back 169 = .ok (.aload_n 0, 1) := decs_at bnd_x32_18 1 (x := (169, .aload_n 0, 1)) rfl
theorem dX3_back_170 : decode cX3_back 170 = .ok (.getfield 41, 3) := decs_at bnd_x32_18 2 (x := (170, .getfield 41, 3)) rfl
theorem dX3_back_173 : decode cX3_back 173 = .ok (.iload_n 3, 1) := decs_at bnd_x32_18 3 (x := (173, .iload_n 3, 1)) rfl
theorem dX3_back_174 : decode cX3_back 174 = .ok (.laload, 1) := decs_at bnd_x32_18 4 (x := (174, .laload, 1)) rfl
theorem dX3_back_175 : decode cX3_back 175 = .ok (.lstore 6, 2) := decs_at bnd_x32_18 5 (x := (175, .lstore 6, 2)) rfl
theorem dX3_back_177 : decode cX3_back 177 = .ok (.iload 5, 2) := decs_at bnd_x32_18 6 (x := (177, .iload 5, 2)) rfl
theorem dX3_back_179 : decode cX3_back 179 = .ok (.bipush 100, 2) := decs_at bnd_x32_18 7 (x := (179, .bipush 100, 2)) rfl
theorem dX3_back_181 : decode cX3_back 181 = .ok (.if_icmp .lt 25, 3) := decs_at bnd_x32_18 8 (x := (181, .if_icmp .lt 25, 3)) rfl
theorem dX3_back_184 : decode cX3_back 184 = .ok (.aload_n 0, 1) := decs_at bnd_x32_18 9 (x := (184, .aload_n 0, 1)) rfl
theorem dX3_back_185 : decode cX3_back 185 = .ok (.getfield 25, 3) := decs_at bnd_x32_18 10 (x := (185, .getfield 25, 3)) rfl
theorem dX3_back_188 : decode cX3_back 188 = .ok (.bipush 20, 2) := decs_at bnd_x32_18 11 (x := (188, .bipush 20, 2)) rfl
theorem dX3_back_190 : decode cX3_back 190 = .ok (.iload 4, 2) := decs_at bnd_x32_18 12 (x := (190, .iload 4, 2)) rfl
theorem dX3_back_192 : decode cX3_back 192 = .ok (.imul, 1) := decs_at bnd_x32_18 13 (x := (192, .imul, 1)) rfl
theorem dX3_back_193 : decode cX3_back 193 = .ok (.iload 5, 2) := decs_at bnd_x32_18 14 (x := (193, .iload 5, 2)) rfl
theorem dX3_back_195 : decode cX3_back 195 = .ok (.iadd, 1) := decs_at bnd_x32_18 15 (x := (195, .iadd, 1)) rfl
theorem dX3_back_196 : decode cX3_back 196 = .ok (.bipush 100, 2) := decs_at bnd_x32_18 16 (x := (196, .bipush 100, 2)) rfl
theorem dX3_back_198 : decode cX3_back 198 = .ok (.isub, 1) := decs_at bnd_x32_18 17 (x := (198, .isub, 1)) rfl
theorem dX3_back_199 : decode cX3_back 199 = .ok (.lload 6, 2) := decs_at bnd_x32_18 18 (x := (199, .lload 6, 2)) rfl
theorem dX3_back_201 : decode cX3_back 201 = .ok (.l2i, 1) := decs_at bnd_x32_18 19 (x := (201, .l2i, 1)) rfl
theorem dX3_back_202 : decode cX3_back 202 = .ok (.iastore, 1) := decs_at bnd_x32_18 20 (x := (202, .iastore, 1)) rfl
theorem dX3_back_203 : decode cX3_back 203 = .ok (.goto 126, 3) := decs_at bnd_x32_18 21 (x := (203, .goto 126, 3)) rfl
theorem dX3_back_206 : decode cX3_back 206 = .ok (.iload 5, 2) := decs_at bnd_x32_18 22 (x := (206, .iload 5, 2)) rfl
theorem dX3_back_208 : decode cX3_back 208 = .ok (.bipush 9, 2) := decs_at bnd_x32_18 23 (x := (208, .bipush 9, 2)) rfl
theorem bnd_x32_19 : decs cX3_back [(210, .if_icmp .ne 16, 3), (213, .aload_n 0, 1), (214, .getfield 21, 3), (217, .iload 4, 2), (219, .lload 6, 2), (221, .l2i, 1), (222, .iastore, 1), (223, .goto 106, 3), (226, .iload 5, 2), (228, .ifCond .lt 76, 3), (231, .iload 5, 2), (233, .invokestatic 74, 3), (236, .ifCond .eq 68, 3), (239, .lload 6, 2), (241, .lconst 0, 1), (242, .iload_n 2, 1), (243, .iconst 1, 1), (244, .isub, 1), (245, .i2l, 1), (246, .invokestatic 70, 3), (249, .ifCond .ne 6, 3), (252, .bipush (-12), 2), (254, .ireturn, 1), (255, .aload_n 0, 1)] = true := by decide +kernel
theorem dX3_back_210 : decode cX3_back 210 = .ok (.if_icmp .ne 16, 3) := decs_at bnd_x32_19 0 (x := (210, .if_icmp .ne 16, 3)) rfl
theorem dX3_back_213 : decode cX3_back 213 = .ok (.aload_n 0, 1) := decs_at bnd_x32_19 1 (x := (213, .aload_n 0, 1)) rfl
theorem dX3_back_214 : decode cX3_back 214 = .ok (.getfield 21, 3) := decs_at bnd_x32_19 2 (x := (214, .getfield 21, 3)) rfl
theorem dX3_back_217 : decode cX3_back 217 = .ok (.iload 4, 2) := decs_at bnd_x32_19 3 (x := (217, .iload 4, 2)) rfl
theorem dX3_back_219 : decode cX3_back 219 = .ok (.lload 6, 2) := decs_at bnd_x32_19 4 (x := (219, .lload 6, 2)) rfl
theorem dX3_back_221 : decode cX3_back 221 = .ok (.l2i, 1) := decs_at bnd_x32_19 5 (x := (221, .l2i, 1)) rfl
theorem dX3_back_222 : decode cX3_back 222 = .ok (.iastore, 1) := decs_at bnd_x32_19 6 (x := (222, .iastore, 1)) rfl
theorem dX3_back_223 : decode cX3_back 223 = .ok (.goto 106, 3) := decs_at bnd_x32_19 7 (x := (223, .goto 106, 3)) rfl
theorem dX3_back_226 : decode cX3_back 226 = .ok (.iload 5, 2) := decs_at bnd_x32_19 8 (x := (226, .iload 5, 2)) rfl
theorem dX3_back_228 : decode cX3_back 228 = .ok (.ifCond .lt 76, 3) := decs_at bnd_x32_19 9 (x := (228, .ifCond .lt 76, 3)) rfl
theorem dX3_back_231 : decode cX3_back 231 = .ok (.iload 5, 2) := decs_at bnd_x32_19 10 (x := (231, .iload 5, 2)) rfl
theorem dX3_back_233 : decode cX3_back 233 = .ok (.invokestatic 74, 3) := decs_at bnd_x32_19 11 (x := (233, .invokestatic 74, 3)) rfl
theorem dX3_back_236 : decode cX3_back 236 = .ok (.ifCond .eq 68, 3) := decs_at bnd_x32_19 12 (x := (236, .ifCond .eq 68, 3)) rfl
theorem dX3_back_239 : decode cX3_back 239 = .ok (.lload 6, 2) := decs_at bnd_x32_19 13 (x := (239, .lload 6, 2)) rfl
theorem dX3_back_241 : decode cX3_back 241 = .ok (.lconst 0, 1) := decs_at bnd_x32_19 14 (x := (241, .lconst 0, 1)) rfl
theorem dX3_back_242 : decode cX3_back 242 = .ok (.iload_n 2, 1) := decs_at bnd_x32_19 15 (x := (242, .iload_n 2, 1)) rfl
theorem dX3_back_243 : decode cX3_back 243 = .ok (.iconst 1, 1) := decs_at bnd_x32_19 16 (x := (243, .iconst 1, 1)) rfl
theorem dX3_back_244 : decode cX3_back 244 = .ok (.isub, 1) := decs_at bnd_x32_19 17 (x := (244, .isub, 1)) rfl
theorem dX3_back_245 : decode cX3_back 245 = .ok (.i2l, 1) := decs_at bnd_x32_19 18 (x := (245, .i2l, 1)) rfl
theorem dX3_back_246 : decode cX3_back 246 = .ok (.invokestatic 70, 3) := decs_at bnd_x32_19 19 (x := (246, .invokestatic 70, 3)) rfl
theorem dX3_back_249 : decode cX3_back 249 = .ok (.ifCond .ne 6, 3) := decs_at bnd_x32_19 20 (x := (249, .ifCond .ne 6, 3)) rfl
theorem dX3_back_252 : decode cX3_back 252 = .ok (.bipush (-12), 2) := decs_at bnd_x32_19 21 (x := (252, .bipush (-12), 2)) rfl
theorem dX3_back_254 : decode cX3_back 254 = .ok (.ireturn, 1) := decs_at bnd_x32_19 22 (x := (254, .ireturn, 1)) rfl
theorem dX3_back_255 : decode cX3_back 255 = .ok (.aload_n 0, 1) := decs_at bnd_x32_19 23 (x := (255, .aload_n 0, 1)) rfl
theorem bnd_x32_20 : decs cX3_back [(256, .getfield 13, 3), (259, .aload_n 0, 1), (260, .getfield 56, 3), (263, .lload 6, 2), (265, .l2i, 1), (266, .iaload, 1), (267, .iaload, 1), (268, .iload 5, 2), (270, .invokestatic 135, 3), (273, .ifCond .ne 6, 3), (276, .bipush (-14), 2), (278, .ireturn, 1), (279, .aload_n 0, 1), (280, .getfield 17, 3), (283, .bipush 17, 2), (285, .iload 4, 2), (287, .imul, 1), (288, .iload 5, 2), (290, .iadd, 1), (291, .aload_n 0, 1), (292, .getfield 56, 3), (295, .lload 6, 2), (297, .l2i, 1), (298, .iaload, 1)] = true := by decide +kernel
theorem dX3_back_256 : decode cX3_back 256 = .ok (.getfield 13, 3) := decs_at bnd_x32_20 0 (x := (256, .getfield 13, 3)) rfl
theorem dX3_back_259 : decode cX3_back 259 = .ok (.aload_n 0, 1) := decs_at bnd_x32_20 1 (x := (259, .aload_n 0, 1)) rfl
theorem dX3_back_260 : decode cX3_back 260 = .ok (.getfield 56, 3) := decs_at bnd_x32_20 2 (x := (260, .getfield 56, 3)) rfl
theorem dX3_back_263 : decode cX3_back 263 = .ok (.lload 6, 2) := decs_at bnd_x32_20 3 (x := (263, .lload 6, 2)) rfl
theorem dX3_back_265 : decode cX3_back 265 = .ok (.l2i, 1) := decs_at bnd_x32_20 4 (x := (265, .l2i, 1)) rfl
theorem dX3_back_266 : decode cX3_back 266 = .ok (.iaload, 1) := decs_at bnd_x32_20 5 (x := (266, .iaload, 1)) rfl
theorem dX3_back_267 : decode cX3_back 267 = .ok (.iaload, 1) := decs_at bnd_x32_20 6 (x := (267, .iaload, 1)) rfl
theorem dX3_back_268 : decode cX3_back 268 = .ok (.iload 5, 2) := decs_at bnd_x32_20 7 (x := (268, .iload 5, 2)) rfl
theorem dX3_back_270 : decode cX3_back 270 = .ok (.invokestatic 135, 3) := decs_at bnd_x32_20 8 (x := (270, .invokestatic 135, 3)) rfl
theorem dX3_back_273 : decode cX3_back 273 = .ok (.ifCond .ne 6, 3) := decs_at bnd_x32_20 9 (x := (273, .ifCond .ne 6, 3)) rfl
theorem dX3_back_276 : decode cX3_back 276 = .ok (.bipush (-14), 2) := decs_at bnd_x32_20 10 (x := (276, .bipush (-14), 2)) rfl
theorem dX3_back_278 : decode cX3_back 278 = .ok (.ireturn, 1) := decs_at bnd_x32_20 11 (x := (278, .ireturn, 1)) rfl
theorem dX3_back_279 : decode cX3_back 279 = .ok (.aload_n 0, 1) := decs_at bnd_x32_20 12 (x := (279, .aload_n 0, 1)) rfl
theorem dX3_back_280 : decode cX3_back 280 = .ok (.getfield 17, 3) := decs_at bnd_x32_20 13 (x := (280, .getfield 17, 3)) rfl
theorem dX3_back_283 : decode cX3_back 283 = .ok (.bipush 17, 2) := decs_at bnd_x32_20 14 (x := (283, .bipush 17, 2)) rfl
theorem dX3_back_285 : decode cX3_back 285 = .ok (.iload 4, 2) := decs_at bnd_x32_20 15 (x := (285, .iload 4, 2)) rfl
theorem dX3_back_287 : decode cX3_back 287 = .ok (.imul, 1) := decs_at bnd_x32_20 16 (x := (287, .imul, 1)) rfl
theorem dX3_back_288 : decode cX3_back 288 = .ok (.iload 5, 2) := decs_at bnd_x32_20 17 (x := (288, .iload 5, 2)) rfl
theorem dX3_back_290 : decode cX3_back 290 = .ok (.iadd, 1) := decs_at bnd_x32_20 18 (x := (290, .iadd, 1)) rfl
theorem dX3_back_291 : decode cX3_back 291 = .ok (.aload_n 0, 1) := decs_at bnd_x32_20 19 (x := (291, .aload_n 0, 1)) rfl
theorem dX3_back_292 : decode cX3_back 292 = .ok (.getfield 56, 3) := decs_at bnd_x32_20 20 (x := (292, .getfield 56, 3)) rfl
theorem dX3_back_295 : decode cX3_back 295 = .ok (.lload 6, 2) := decs_at bnd_x32_20 21 (x := (295, .lload 6, 2)) rfl
theorem dX3_back_297 : decode cX3_back 297 = .ok (.l2i, 1) := decs_at bnd_x32_20 22 (x := (297, .l2i, 1)) rfl
theorem dX3_back_298 : decode cX3_back 298 = .ok (.iaload, 1) := decs_at bnd_x32_20 23 (x := (298, .iaload, 1)) rfl
theorem bnd_x32_21 : decs cX3_back [(299, .i2l, 1), (300, .lastore, 1), (301, .goto 28, 3), (304, .iload 5, 2), (306, .ifCond .lt 23, 3), (309, .aload_n 0, 1), (310, .getfield 17, 3), (313, .bipush 17, 2), (315, .iload 4, 2), (317, .imul, 1), (318, .iload 5, 2), (320, .iadd, 1), (321, .iload 5, 2), (323, .lload 6, 2), (325, .invokestatic 131, 3), (328, .lastore, 1), (329, .iinc 3 1, 3), (332, .goto (-192), 3), (335, .aload_n 0, 1), (336, .getfield 7, 3), (339, .iload_n 1, 1), (340, .aload_n 0, 1), (341, .getfield 56, 3), (344, .iconst 0, 1)] = true := by decide +kernel
theorem dX3_back_299 : decode cX3_back 299 = .ok (.i2l, 1) := decs_at bnd_x32_21 0 (x := (299, .i2l, 1)) rfl
theorem dX3_back_300 : decode cX3_back 300 = .ok (.lastore, 1) := decs_at bnd_x32_21 1 (x := (300, .lastore, 1)) rfl
theorem dX3_back_301 : decode cX3_back 301 = .ok (.goto 28, 3) := decs_at bnd_x32_21 2 (x := (301, .goto 28, 3)) rfl
theorem dX3_back_304 : decode cX3_back 304 = .ok (.iload 5, 2) := decs_at bnd_x32_21 3 (x := (304, .iload 5, 2)) rfl
theorem dX3_back_306 : decode cX3_back 306 = .ok (.ifCond .lt 23, 3) := decs_at bnd_x32_21 4 (x := (306, .ifCond .lt 23, 3)) rfl
theorem dX3_back_309 : decode cX3_back 309 = .ok (.aload_n 0, 1) := decs_at bnd_x32_21 5 (x := (309, .aload_n 0, 1)) rfl
theorem dX3_back_310 : decode cX3_back 310 = .ok (.getfield 17, 3) := decs_at bnd_x32_21 6 (x := (310, .getfield 17, 3)) rfl
theorem dX3_back_313 : decode cX3_back 313 = .ok (.bipush 17, 2) := decs_at bnd_x32_21 7 (x := (313, .bipush 17, 2)) rfl
theorem dX3_back_315 : decode cX3_back 315 = .ok (.iload 4, 2) := decs_at bnd_x32_21 8 (x := (315, .iload 4, 2)) rfl
theorem dX3_back_317 : decode cX3_back 317 = .ok (.imul, 1) := decs_at bnd_x32_21 9 (x := (317, .imul, 1)) rfl
theorem dX3_back_318 : decode cX3_back 318 = .ok (.iload 5, 2) := decs_at bnd_x32_21 10 (x := (318, .iload 5, 2)) rfl
theorem dX3_back_320 : decode cX3_back 320 = .ok (.iadd, 1) := decs_at bnd_x32_21 11 (x := (320, .iadd, 1)) rfl
theorem dX3_back_321 : decode cX3_back 321 = .ok (.iload 5, 2) := decs_at bnd_x32_21 12 (x := (321, .iload 5, 2)) rfl
theorem dX3_back_323 : decode cX3_back 323 = .ok (.lload 6, 2) := decs_at bnd_x32_21 13 (x := (323, .lload 6, 2)) rfl
theorem dX3_back_325 : decode cX3_back 325 = .ok (.invokestatic 131, 3) := decs_at bnd_x32_21 14 (x := (325, .invokestatic 131, 3)) rfl
theorem dX3_back_328 : decode cX3_back 328 = .ok (.lastore, 1) := decs_at bnd_x32_21 15 (x := (328, .lastore, 1)) rfl
theorem dX3_back_329 : decode cX3_back 329 = .ok (.iinc 3 1, 3) := decs_at bnd_x32_21 16 (x := (329, .iinc 3 1, 3)) rfl
theorem dX3_back_332 : decode cX3_back 332 = .ok (.goto (-192), 3) := decs_at bnd_x32_21 17 (x := (332, .goto (-192), 3)) rfl
theorem dX3_back_335 : decode cX3_back 335 = .ok (.aload_n 0, 1) := decs_at bnd_x32_21 18 (x := (335, .aload_n 0, 1)) rfl
theorem dX3_back_336 : decode cX3_back 336 = .ok (.getfield 7, 3) := decs_at bnd_x32_21 19 (x := (336, .getfield 7, 3)) rfl
theorem dX3_back_339 : decode cX3_back 339 = .ok (.iload_n 1, 1) := decs_at bnd_x32_21 20 (x := (339, .iload_n 1, 1)) rfl
theorem dX3_back_340 : decode cX3_back 340 = .ok (.aload_n 0, 1) := decs_at bnd_x32_21 21 (x := (340, .aload_n 0, 1)) rfl
theorem dX3_back_341 : decode cX3_back 341 = .ok (.getfield 56, 3) := decs_at bnd_x32_21 22 (x := (341, .getfield 56, 3)) rfl
theorem dX3_back_344 : decode cX3_back 344 = .ok (.iconst 0, 1) := decs_at bnd_x32_21 23 (x := (344, .iconst 0, 1)) rfl
theorem bnd_x32_22 : decs cX3_back [(345, .iaload, 1), (346, .iastore, 1), (347, .iload_n 2, 1), (348, .ireturn, 1)] = true := by decide +kernel
theorem dX3_back_345 : decode cX3_back 345 = .ok (.iaload, 1) := decs_at bnd_x32_22 0 (x := (345, .iaload, 1)) rfl
theorem dX3_back_346 : decode cX3_back 346 = .ok (.iastore, 1) := decs_at bnd_x32_22 1 (x := (346, .iastore, 1)) rfl
theorem dX3_back_347 : decode cX3_back 347 = .ok (.iload_n 2, 1) := decs_at bnd_x32_22 2 (x := (347, .iload_n 2, 1)) rfl
theorem dX3_back_348 : decode cX3_back 348 = .ok (.ireturn, 1) := decs_at bnd_x32_22 3 (x := (348, .ireturn, 1)) rfl
set_option maxRecDepth 20000 in
theorem ggX3_equal_X3_isSlot : GoodIn wsX3_equal wsX3_isSlot := goodIn_r _ [12, 13, 14, 15, 11, 16] rfl (by decide +kernel)
set_option maxRecDepth 20000 in
theorem gX3_equal_X3_isSlot : GoodIn wsX3_equal (va_wsS RX3 84 yX3_isSlot wsX3_isSlot) := goodIn_app (goodIn_r _ [9, 10, 11] rfl (by decide +kernel)) ggX3_equal_X3_isSlot
set_option maxRecDepth 20000 in
theorem ggX3_equal_X3_find : GoodIn wsX3_equal wsX3_find := goodIn_r _ [20, 21, 22, 2, 23, 24, 25, 26, 27, 11, 28, 29, 30, 31, 32, 33, 34, 35, 36, 37, 38, 39, 40, 41, 42, 43, 44, 45, 46, 4, 6, 8, 47, 48, 49, 50, 51, 52, 53, 54, 55, 56, 57, 58, 59, 60, 61, 62, 63, 64, 65, 66, 67, 68, 69] rfl (by decide +kernel)
set_option maxRecDepth 20000 in
theorem gX3_equal_X3_find : GoodIn wsX3_equal (wsV RX3 181 RX3 yX3_find wsX3_find) := goodIn_app (goodIn_r _ [17, 18, 19, 11] rfl (by decide +kernel)) ggX3_equal_X3_find
theorem bnd_x32_23 : decs cX3_equal [(0, .iload_n 1, 1), (1, .invokestatic 84, 3), (4, .ifCond .eq 10, 3), (7, .iload_n 2, 1), (8, .invokestatic 84, 3), (11, .ifCond .ne 5, 3), (14, .iconst (-1), 1), (15, .ireturn, 1), (16, .aload_n 0, 1), (17, .getfield 7, 3), (20, .iload_n 1, 1), (21, .iaload, 1), (22, .iconst (-1), 1), (23, .if_icmp .eq 13, 3), (26, .aload_n 0, 1), (27, .getfield 7, 3), (30, .iload_n 2, 1), (31, .iaload, 1), (32, .iconst (-1), 1), (33, .if_icmp .ne 24, 3), (36, .aload_n 0, 1), (37, .getfield 7, 3), (40, .iload_n 1, 1), (41, .iaload, 1)] = true := by decide +kernel
theorem dX3_equal_0 : decode cX3_equal 0 = .ok (.iload_n 1, 1) := decs_at bnd_x32_23 0 (x := (0, .iload_n 1, 1)) rfl
theorem dX3_equal_1 : decode cX3_equal 1 = .ok (.invokestatic 84, 3) := decs_at bnd_x32_23 1 (x := (1, .invokestatic 84, 3)) rfl
theorem dX3_equal_4 : decode cX3_equal 4 = .ok (.ifCond .eq 10, 3) := decs_at bnd_x32_23 2 (x := (4, .ifCond .eq 10, 3)) rfl
theorem dX3_equal_7 : decode cX3_equal 7 = .ok (.iload_n 2, 1) := decs_at bnd_x32_23 3 (x := (7, .iload_n 2, 1)) rfl
theorem dX3_equal_8 : decode cX3_equal 8 = .ok (.invokestatic 84, 3) := decs_at bnd_x32_23 4 (x := (8, .invokestatic 84, 3)) rfl
theorem dX3_equal_11 : decode cX3_equal 11 = .ok (.ifCond .ne 5, 3) := decs_at bnd_x32_23 5 (x := (11, .ifCond .ne 5, 3)) rfl
theorem dX3_equal_14 : decode cX3_equal 14 = .ok (.iconst (-1), 1) := decs_at bnd_x32_23 6 (x := (14, .iconst (-1), 1)) rfl
theorem dX3_equal_15 : decode cX3_equal 15 = .ok (.ireturn, 1) := decs_at bnd_x32_23 7 (x := (15, .ireturn, 1)) rfl
theorem dX3_equal_16 : decode cX3_equal 16 = .ok (.aload_n 0, 1) := decs_at bnd_x32_23 8 (x := (16, .aload_n 0, 1)) rfl
theorem dX3_equal_17 : decode cX3_equal 17 = .ok (.getfield 7, 3) := decs_at bnd_x32_23 9 (x := (17, .getfield 7, 3)) rfl
theorem dX3_equal_20 : decode cX3_equal 20 = .ok (.iload_n 1, 1) := decs_at bnd_x32_23 10 (x := (20, .iload_n 1, 1)) rfl
theorem dX3_equal_21 : decode cX3_equal 21 = .ok (.iaload, 1) := decs_at bnd_x32_23 11 (x := (21, .iaload, 1)) rfl
theorem dX3_equal_22 : decode cX3_equal 22 = .ok (.iconst (-1), 1) := decs_at bnd_x32_23 12 (x := (22, .iconst (-1), 1)) rfl
theorem dX3_equal_23 : decode cX3_equal 23 = .ok (.if_icmp .eq 13, 3) := decs_at bnd_x32_23 13 (x := (23, .if_icmp .eq 13, 3)) rfl
theorem dX3_equal_26 : decode cX3_equal 26 = .ok (.aload_n 0, 1) := decs_at bnd_x32_23 14 (x := (26, .aload_n 0, 1)) rfl
theorem dX3_equal_27 : decode cX3_equal 27 = .ok (.getfield 7, 3) := decs_at bnd_x32_23 15 (x := (27, .getfield 7, 3)) rfl
theorem dX3_equal_30 : decode cX3_equal 30 = .ok (.iload_n 2, 1) := decs_at bnd_x32_23 16 (x := (30, .iload_n 2, 1)) rfl
theorem dX3_equal_31 : decode cX3_equal 31 = .ok (.iaload, 1) := decs_at bnd_x32_23 17 (x := (31, .iaload, 1)) rfl
theorem dX3_equal_32 : decode cX3_equal 32 = .ok (.iconst (-1), 1) := decs_at bnd_x32_23 18 (x := (32, .iconst (-1), 1)) rfl
theorem dX3_equal_33 : decode cX3_equal 33 = .ok (.if_icmp .ne 24, 3) := decs_at bnd_x32_23 19 (x := (33, .if_icmp .ne 24, 3)) rfl
theorem dX3_equal_36 : decode cX3_equal 36 = .ok (.aload_n 0, 1) := decs_at bnd_x32_23 20 (x := (36, .aload_n 0, 1)) rfl
theorem dX3_equal_37 : decode cX3_equal 37 = .ok (.getfield 7, 3) := decs_at bnd_x32_23 21 (x := (37, .getfield 7, 3)) rfl
theorem dX3_equal_40 : decode cX3_equal 40 = .ok (.iload_n 1, 1) := decs_at bnd_x32_23 22 (x := (40, .iload_n 1, 1)) rfl
theorem dX3_equal_41 : decode cX3_equal 41 = .ok (.iaload, 1) := decs_at bnd_x32_23 23 (x := (41, .iaload, 1)) rfl
theorem bnd_x32_24 : decs cX3_equal [(42, .aload_n 0, 1), (43, .getfield 7, 3), (46, .iload_n 2, 1), (47, .iaload, 1), (48, .if_icmp .ne 7, 3), (51, .iconst 1, 1), (52, .goto 4, 3), (55, .iconst 0, 1), (56, .ireturn, 1), (57, .aload_n 0, 1), (58, .aload_n 0, 1), (59, .getfield 7, 3), (62, .iload_n 1, 1), (63, .iaload, 1), (64, .invokevirtual 181, 3), (67, .ifCond .ne 6, 3), (70, .bipush (-3), 2), (72, .ireturn, 1), (73, .aload_n 0, 1), (74, .getfield 160, 3), (77, .istore_n 3, 1), (78, .iconst 0, 1), (79, .istore 4, 2), (81, .iload 4, 2)] = true := by decide +kernel
theorem dX3_equal_42 : decode cX3_equal 42 = .ok (.aload_n 0, 1) := decs_at bnd_x32_24 0 (x := (42, .aload_n 0, 1)) rfl
theorem dX3_equal_43 : decode cX3_equal 43 = .ok (.getfield 7, 3) := decs_at bnd_x32_24 1 (x := (43, .getfield 7, 3)) rfl
theorem dX3_equal_46 : decode cX3_equal 46 = .ok (.iload_n 2, 1) := decs_at bnd_x32_24 2 (x := (46, .iload_n 2, 1)) rfl
theorem dX3_equal_47 : decode cX3_equal 47 = .ok (.iaload, 1) := decs_at bnd_x32_24 3 (x := (47, .iaload, 1)) rfl
theorem dX3_equal_48 : decode cX3_equal 48 = .ok (.if_icmp .ne 7, 3) := decs_at bnd_x32_24 4 (x := (48, .if_icmp .ne 7, 3)) rfl
theorem dX3_equal_51 : decode cX3_equal 51 = .ok (.iconst 1, 1) := decs_at bnd_x32_24 5 (x := (51, .iconst 1, 1)) rfl
theorem dX3_equal_52 : decode cX3_equal 52 = .ok (.goto 4, 3) := decs_at bnd_x32_24 6 (x := (52, .goto 4, 3)) rfl
theorem dX3_equal_55 : decode cX3_equal 55 = .ok (.iconst 0, 1) := decs_at bnd_x32_24 7 (x := (55, .iconst 0, 1)) rfl
theorem dX3_equal_56 : decode cX3_equal 56 = .ok (.ireturn, 1) := decs_at bnd_x32_24 8 (x := (56, .ireturn, 1)) rfl
theorem dX3_equal_57 : decode cX3_equal 57 = .ok (.aload_n 0, 1) := decs_at bnd_x32_24 9 (x := (57, .aload_n 0, 1)) rfl
theorem dX3_equal_58 : decode cX3_equal 58 = .ok (.aload_n 0, 1) := decs_at bnd_x32_24 10 (x := (58, .aload_n 0, 1)) rfl
theorem dX3_equal_59 : decode cX3_equal 59 = .ok (.getfield 7, 3) := decs_at bnd_x32_24 11 (x := (59, .getfield 7, 3)) rfl
theorem dX3_equal_62 : decode cX3_equal 62 = .ok (.iload_n 1, 1) := decs_at bnd_x32_24 12 (x := (62, .iload_n 1, 1)) rfl
theorem dX3_equal_63 : decode cX3_equal 63 = .ok (.iaload, 1) := decs_at bnd_x32_24 13 (x := (63, .iaload, 1)) rfl
theorem dX3_equal_64 : decode cX3_equal 64 = .ok (.invokevirtual 181, 3) := decs_at bnd_x32_24 14 (x := (64, .invokevirtual 181, 3)) rfl
theorem dX3_equal_67 : decode cX3_equal 67 = .ok (.ifCond .ne 6, 3) := decs_at bnd_x32_24 15 (x := (67, .ifCond .ne 6, 3)) rfl
theorem dX3_equal_70 : decode cX3_equal 70 = .ok (.bipush (-3), 2) := decs_at bnd_x32_24 16 (x := (70, .bipush (-3), 2)) rfl
theorem dX3_equal_72 : decode cX3_equal 72 = .ok (.ireturn, 1) := decs_at bnd_x32_24 17 (x := (72, .ireturn, 1)) rfl
theorem dX3_equal_73 : decode cX3_equal 73 = .ok (.aload_n 0, 1) := decs_at bnd_x32_24 18 (x := (73, .aload_n 0, 1)) rfl
theorem dX3_equal_74 : decode cX3_equal 74 = .ok (.getfield 160, 3) := decs_at bnd_x32_24 19 (x := (74, .getfield 160, 3)) rfl
theorem dX3_equal_77 : decode cX3_equal 77 = .ok (.istore_n 3, 1) := decs_at bnd_x32_24 20 (x := (77, .istore_n 3, 1)) rfl
theorem dX3_equal_78 : decode cX3_equal 78 = .ok (.iconst 0, 1) := decs_at bnd_x32_24 21 (x := (78, .iconst 0, 1)) rfl
theorem dX3_equal_79 : decode cX3_equal 79 = .ok (.istore 4, 2) := decs_at bnd_x32_24 22 (x := (79, .istore 4, 2)) rfl
theorem dX3_equal_81 : decode cX3_equal 81 = .ok (.iload 4, 2) := decs_at bnd_x32_24 23 (x := (81, .iload 4, 2)) rfl
theorem bnd_x32_25 : decs cX3_equal [(83, .iload_n 3, 1), (84, .if_icmp .ge 51, 3), (87, .aload_n 0, 1), (88, .getfield 59, 3), (91, .iload 4, 2), (93, .aload_n 0, 1), (94, .getfield 47, 3), (97, .iload 4, 2), (99, .iaload, 1), (100, .iastore, 1), (101, .aload_n 0, 1), (102, .getfield 62, 3), (105, .iload 4, 2), (107, .aload_n 0, 1), (108, .getfield 50, 3), (111, .iload 4, 2), (113, .iaload, 1), (114, .iastore, 1), (115, .aload_n 0, 1), (116, .getfield 65, 3), (119, .iload 4, 2), (121, .aload_n 0, 1), (122, .getfield 53, 3), (125, .iload 4, 2)] = true := by decide +kernel
theorem dX3_equal_83 : decode cX3_equal 83 = .ok (.iload_n 3, 1) := decs_at bnd_x32_25 0 (x := (83, .iload_n 3, 1)) rfl
theorem dX3_equal_84 : decode cX3_equal 84 = .ok (.if_icmp .ge 51, 3) := decs_at bnd_x32_25 1 (x := (84, .if_icmp .ge 51, 3)) rfl
theorem dX3_equal_87 : decode cX3_equal 87 = .ok (.aload_n 0, 1) := decs_at bnd_x32_25 2 (x := (87, .aload_n 0, 1)) rfl
theorem dX3_equal_88 : decode cX3_equal 88 = .ok (.getfield 59, 3) := decs_at bnd_x32_25 3 (x := (88, .getfield 59, 3)) rfl
theorem dX3_equal_91 : decode cX3_equal 91 = .ok (.iload 4, 2) := decs_at bnd_x32_25 4 (x := (91, .iload 4, 2)) rfl
theorem dX3_equal_93 : decode cX3_equal 93 = .ok (.aload_n 0, 1) := decs_at bnd_x32_25 5 (x := (93, .aload_n 0, 1)) rfl
theorem dX3_equal_94 : decode cX3_equal 94 = .ok (.getfield 47, 3) := decs_at bnd_x32_25 6 (x := (94, .getfield 47, 3)) rfl
theorem dX3_equal_97 : decode cX3_equal 97 = .ok (.iload 4, 2) := decs_at bnd_x32_25 7 (x := (97, .iload 4, 2)) rfl
theorem dX3_equal_99 : decode cX3_equal 99 = .ok (.iaload, 1) := decs_at bnd_x32_25 8 (x := (99, .iaload, 1)) rfl
theorem dX3_equal_100 : decode cX3_equal 100 = .ok (.iastore, 1) := decs_at bnd_x32_25 9 (x := (100, .iastore, 1)) rfl
theorem dX3_equal_101 : decode cX3_equal 101 = .ok (.aload_n 0, 1) := decs_at bnd_x32_25 10 (x := (101, .aload_n 0, 1)) rfl
theorem dX3_equal_102 : decode cX3_equal 102 = .ok (.getfield 62, 3) := decs_at bnd_x32_25 11 (x := (102, .getfield 62, 3)) rfl
theorem dX3_equal_105 : decode cX3_equal 105 = .ok (.iload 4, 2) := decs_at bnd_x32_25 12 (x := (105, .iload 4, 2)) rfl
theorem dX3_equal_107 : decode cX3_equal 107 = .ok (.aload_n 0, 1) := decs_at bnd_x32_25 13 (x := (107, .aload_n 0, 1)) rfl
theorem dX3_equal_108 : decode cX3_equal 108 = .ok (.getfield 50, 3) := decs_at bnd_x32_25 14 (x := (108, .getfield 50, 3)) rfl
theorem dX3_equal_111 : decode cX3_equal 111 = .ok (.iload 4, 2) := decs_at bnd_x32_25 15 (x := (111, .iload 4, 2)) rfl
theorem dX3_equal_113 : decode cX3_equal 113 = .ok (.iaload, 1) := decs_at bnd_x32_25 16 (x := (113, .iaload, 1)) rfl
theorem dX3_equal_114 : decode cX3_equal 114 = .ok (.iastore, 1) := decs_at bnd_x32_25 17 (x := (114, .iastore, 1)) rfl
theorem dX3_equal_115 : decode cX3_equal 115 = .ok (.aload_n 0, 1) := decs_at bnd_x32_25 18 (x := (115, .aload_n 0, 1)) rfl
theorem dX3_equal_116 : decode cX3_equal 116 = .ok (.getfield 65, 3) := decs_at bnd_x32_25 19 (x := (116, .getfield 65, 3)) rfl
theorem dX3_equal_119 : decode cX3_equal 119 = .ok (.iload 4, 2) := decs_at bnd_x32_25 20 (x := (119, .iload 4, 2)) rfl
theorem dX3_equal_121 : decode cX3_equal 121 = .ok (.aload_n 0, 1) := decs_at bnd_x32_25 21 (x := (121, .aload_n 0, 1)) rfl
theorem dX3_equal_122 : decode cX3_equal 122 = .ok (.getfield 53, 3) := decs_at bnd_x32_25 22 (x := (122, .getfield 53, 3)) rfl
theorem dX3_equal_125 : decode cX3_equal 125 = .ok (.iload 4, 2) := decs_at bnd_x32_25 23 (x := (125, .iload 4, 2)) rfl
theorem bnd_x32_26 : decs cX3_equal [(127, .laload, 1), (128, .lastore, 1), (129, .iinc 4 1, 3), (132, .goto (-51), 3), (135, .aload_n 0, 1), (136, .aload_n 0, 1), (137, .getfield 7, 3), (140, .iload_n 2, 1), (141, .iaload, 1), (142, .invokevirtual 181, 3), (145, .ifCond .ne 6, 3), (148, .bipush (-3), 2), (150, .ireturn, 1), (151, .iload_n 3, 1), (152, .aload_n 0, 1), (153, .getfield 160, 3), (156, .if_icmp .ne 7, 3), (159, .iconst 1, 1), (160, .goto 4, 3), (163, .iconst 0, 1), (164, .istore 4, 2), (166, .iconst 0, 1), (167, .istore 5, 2), (169, .iload 5, 2)] = true := by decide +kernel
theorem dX3_equal_127 : decode cX3_equal 127 = .ok (.laload, 1) := decs_at bnd_x32_26 0 (x := (127, .laload, 1)) rfl
theorem dX3_equal_128 : decode cX3_equal 128 = .ok (.lastore, 1) := decs_at bnd_x32_26 1 (x := (128, .lastore, 1)) rfl
theorem dX3_equal_129 : decode cX3_equal 129 = .ok (.iinc 4 1, 3) := decs_at bnd_x32_26 2 (x := (129, .iinc 4 1, 3)) rfl
theorem dX3_equal_132 : decode cX3_equal 132 = .ok (.goto (-51), 3) := decs_at bnd_x32_26 3 (x := (132, .goto (-51), 3)) rfl
theorem dX3_equal_135 : decode cX3_equal 135 = .ok (.aload_n 0, 1) := decs_at bnd_x32_26 4 (x := (135, .aload_n 0, 1)) rfl
theorem dX3_equal_136 : decode cX3_equal 136 = .ok (.aload_n 0, 1) := decs_at bnd_x32_26 5 (x := (136, .aload_n 0, 1)) rfl
theorem dX3_equal_137 : decode cX3_equal 137 = .ok (.getfield 7, 3) := decs_at bnd_x32_26 6 (x := (137, .getfield 7, 3)) rfl
theorem dX3_equal_140 : decode cX3_equal 140 = .ok (.iload_n 2, 1) := decs_at bnd_x32_26 7 (x := (140, .iload_n 2, 1)) rfl
theorem dX3_equal_141 : decode cX3_equal 141 = .ok (.iaload, 1) := decs_at bnd_x32_26 8 (x := (141, .iaload, 1)) rfl
theorem dX3_equal_142 : decode cX3_equal 142 = .ok (.invokevirtual 181, 3) := decs_at bnd_x32_26 9 (x := (142, .invokevirtual 181, 3)) rfl
theorem dX3_equal_145 : decode cX3_equal 145 = .ok (.ifCond .ne 6, 3) := decs_at bnd_x32_26 10 (x := (145, .ifCond .ne 6, 3)) rfl
theorem dX3_equal_148 : decode cX3_equal 148 = .ok (.bipush (-3), 2) := decs_at bnd_x32_26 11 (x := (148, .bipush (-3), 2)) rfl
theorem dX3_equal_150 : decode cX3_equal 150 = .ok (.ireturn, 1) := decs_at bnd_x32_26 12 (x := (150, .ireturn, 1)) rfl
theorem dX3_equal_151 : decode cX3_equal 151 = .ok (.iload_n 3, 1) := decs_at bnd_x32_26 13 (x := (151, .iload_n 3, 1)) rfl
theorem dX3_equal_152 : decode cX3_equal 152 = .ok (.aload_n 0, 1) := decs_at bnd_x32_26 14 (x := (152, .aload_n 0, 1)) rfl
theorem dX3_equal_153 : decode cX3_equal 153 = .ok (.getfield 160, 3) := decs_at bnd_x32_26 15 (x := (153, .getfield 160, 3)) rfl
theorem dX3_equal_156 : decode cX3_equal 156 = .ok (.if_icmp .ne 7, 3) := decs_at bnd_x32_26 16 (x := (156, .if_icmp .ne 7, 3)) rfl
theorem dX3_equal_159 : decode cX3_equal 159 = .ok (.iconst 1, 1) := decs_at bnd_x32_26 17 (x := (159, .iconst 1, 1)) rfl
theorem dX3_equal_160 : decode cX3_equal 160 = .ok (.goto 4, 3) := decs_at bnd_x32_26 18 (x := (160, .goto 4, 3)) rfl
theorem dX3_equal_163 : decode cX3_equal 163 = .ok (.iconst 0, 1) := decs_at bnd_x32_26 19 (x := (163, .iconst 0, 1)) rfl
theorem dX3_equal_164 : decode cX3_equal 164 = .ok (.istore 4, 2) := decs_at bnd_x32_26 20 (x := (164, .istore 4, 2)) rfl
theorem dX3_equal_166 : decode cX3_equal 166 = .ok (.iconst 0, 1) := decs_at bnd_x32_26 21 (x := (166, .iconst 0, 1)) rfl
theorem dX3_equal_167 : decode cX3_equal 167 = .ok (.istore 5, 2) := decs_at bnd_x32_26 22 (x := (167, .istore 5, 2)) rfl
theorem dX3_equal_169 : decode cX3_equal 169 = .ok (.iload 5, 2) := decs_at bnd_x32_26 23 (x := (169, .iload 5, 2)) rfl
theorem bnd_x32_27 : decs cX3_equal [(171, .iload_n 3, 1), (172, .if_icmp .ge 73, 3), (175, .iload 4, 2), (177, .ifCond .eq 68, 3), (180, .aload_n 0, 1), (181, .getfield 59, 3), (184, .iload 5, 2), (186, .iaload, 1), (187, .aload_n 0, 1), (188, .getfield 47, 3), (191, .iload 5, 2), (193, .iaload, 1), (194, .if_icmp .ne 42, 3), (197, .aload_n 0, 1), (198, .getfield 62, 3), (201, .iload 5, 2), (203, .iaload, 1), (204, .aload_n 0, 1), (205, .getfield 50, 3), (208, .iload 5, 2), (210, .iaload, 1), (211, .if_icmp .ne 25, 3), (214, .aload_n 0, 1), (215, .getfield 65, 3)] = true := by decide +kernel
theorem dX3_equal_171 : decode cX3_equal 171 = .ok (.iload_n 3, 1) := decs_at bnd_x32_27 0 (x := (171, .iload_n 3, 1)) rfl
theorem dX3_equal_172 : decode cX3_equal 172 = .ok (.if_icmp .ge 73, 3) := decs_at bnd_x32_27 1 (x := (172, .if_icmp .ge 73, 3)) rfl
theorem dX3_equal_175 : decode cX3_equal 175 = .ok (.iload 4, 2) := decs_at bnd_x32_27 2 (x := (175, .iload 4, 2)) rfl
theorem dX3_equal_177 : decode cX3_equal 177 = .ok (.ifCond .eq 68, 3) := decs_at bnd_x32_27 3 (x := (177, .ifCond .eq 68, 3)) rfl
theorem dX3_equal_180 : decode cX3_equal 180 = .ok (.aload_n 0, 1) := decs_at bnd_x32_27 4 (x := (180, .aload_n 0, 1)) rfl
theorem dX3_equal_181 : decode cX3_equal 181 = .ok (.getfield 59, 3) := decs_at bnd_x32_27 5 (x := (181, .getfield 59, 3)) rfl
theorem dX3_equal_184 : decode cX3_equal 184 = .ok (.iload 5, 2) := decs_at bnd_x32_27 6 (x := (184, .iload 5, 2)) rfl
theorem dX3_equal_186 : decode cX3_equal 186 = .ok (.iaload, 1) := decs_at bnd_x32_27 7 (x := (186, .iaload, 1)) rfl
theorem dX3_equal_187 : decode cX3_equal 187 = .ok (.aload_n 0, 1) := decs_at bnd_x32_27 8 (x := (187, .aload_n 0, 1)) rfl
theorem dX3_equal_188 : decode cX3_equal 188 = .ok (.getfield 47, 3) := decs_at bnd_x32_27 9 (x := (188, .getfield 47, 3)) rfl
theorem dX3_equal_191 : decode cX3_equal 191 = .ok (.iload 5, 2) := decs_at bnd_x32_27 10 (x := (191, .iload 5, 2)) rfl
theorem dX3_equal_193 : decode cX3_equal 193 = .ok (.iaload, 1) := decs_at bnd_x32_27 11 (x := (193, .iaload, 1)) rfl
theorem dX3_equal_194 : decode cX3_equal 194 = .ok (.if_icmp .ne 42, 3) := decs_at bnd_x32_27 12 (x := (194, .if_icmp .ne 42, 3)) rfl
theorem dX3_equal_197 : decode cX3_equal 197 = .ok (.aload_n 0, 1) := decs_at bnd_x32_27 13 (x := (197, .aload_n 0, 1)) rfl
theorem dX3_equal_198 : decode cX3_equal 198 = .ok (.getfield 62, 3) := decs_at bnd_x32_27 14 (x := (198, .getfield 62, 3)) rfl
theorem dX3_equal_201 : decode cX3_equal 201 = .ok (.iload 5, 2) := decs_at bnd_x32_27 15 (x := (201, .iload 5, 2)) rfl
theorem dX3_equal_203 : decode cX3_equal 203 = .ok (.iaload, 1) := decs_at bnd_x32_27 16 (x := (203, .iaload, 1)) rfl
theorem dX3_equal_204 : decode cX3_equal 204 = .ok (.aload_n 0, 1) := decs_at bnd_x32_27 17 (x := (204, .aload_n 0, 1)) rfl
theorem dX3_equal_205 : decode cX3_equal 205 = .ok (.getfield 50, 3) := decs_at bnd_x32_27 18 (x := (205, .getfield 50, 3)) rfl
theorem dX3_equal_208 : decode cX3_equal 208 = .ok (.iload 5, 2) := decs_at bnd_x32_27 19 (x := (208, .iload 5, 2)) rfl
theorem dX3_equal_210 : decode cX3_equal 210 = .ok (.iaload, 1) := decs_at bnd_x32_27 20 (x := (210, .iaload, 1)) rfl
theorem dX3_equal_211 : decode cX3_equal 211 = .ok (.if_icmp .ne 25, 3) := decs_at bnd_x32_27 21 (x := (211, .if_icmp .ne 25, 3)) rfl
theorem dX3_equal_214 : decode cX3_equal 214 = .ok (.aload_n 0, 1) := decs_at bnd_x32_27 22 (x := (214, .aload_n 0, 1)) rfl
theorem dX3_equal_215 : decode cX3_equal 215 = .ok (.getfield 65, 3) := decs_at bnd_x32_27 23 (x := (215, .getfield 65, 3)) rfl
theorem bnd_x32_28 : decs cX3_equal [(218, .iload 5, 2), (220, .laload, 1), (221, .aload_n 0, 1), (222, .getfield 53, 3), (225, .iload 5, 2), (227, .laload, 1), (228, .lcmp, 1), (229, .ifCond .ne 7, 3), (232, .iconst 1, 1), (233, .goto 4, 3), (236, .iconst 0, 1), (237, .istore 4, 2), (239, .iinc 5 1, 3), (242, .goto (-73), 3), (245, .iload 4, 2), (247, .ifCond .eq 7, 3), (250, .iconst 1, 1), (251, .goto 4, 3), (254, .iconst 0, 1), (255, .ireturn, 1)] = true := by decide +kernel
theorem dX3_equal_218 : decode cX3_equal 218 = .ok (.iload 5, 2) := decs_at bnd_x32_28 0 (x := (218, .iload 5, 2)) rfl
theorem dX3_equal_220 : decode cX3_equal 220 = .ok (.laload, 1) := decs_at bnd_x32_28 1 (x := (220, .laload, 1)) rfl
theorem dX3_equal_221 : decode cX3_equal 221 = .ok (.aload_n 0, 1) := decs_at bnd_x32_28 2 (x := (221, .aload_n 0, 1)) rfl
theorem dX3_equal_222 : decode cX3_equal 222 = .ok (.getfield 53, 3) := decs_at bnd_x32_28 3 (x := (222, .getfield 53, 3)) rfl
theorem dX3_equal_225 : decode cX3_equal 225 = .ok (.iload 5, 2) := decs_at bnd_x32_28 4 (x := (225, .iload 5, 2)) rfl
theorem dX3_equal_227 : decode cX3_equal 227 = .ok (.laload, 1) := decs_at bnd_x32_28 5 (x := (227, .laload, 1)) rfl
theorem dX3_equal_228 : decode cX3_equal 228 = .ok (.lcmp, 1) := decs_at bnd_x32_28 6 (x := (228, .lcmp, 1)) rfl
theorem dX3_equal_229 : decode cX3_equal 229 = .ok (.ifCond .ne 7, 3) := decs_at bnd_x32_28 7 (x := (229, .ifCond .ne 7, 3)) rfl
theorem dX3_equal_232 : decode cX3_equal 232 = .ok (.iconst 1, 1) := decs_at bnd_x32_28 8 (x := (232, .iconst 1, 1)) rfl
theorem dX3_equal_233 : decode cX3_equal 233 = .ok (.goto 4, 3) := decs_at bnd_x32_28 9 (x := (233, .goto 4, 3)) rfl
theorem dX3_equal_236 : decode cX3_equal 236 = .ok (.iconst 0, 1) := decs_at bnd_x32_28 10 (x := (236, .iconst 0, 1)) rfl
theorem dX3_equal_237 : decode cX3_equal 237 = .ok (.istore 4, 2) := decs_at bnd_x32_28 11 (x := (237, .istore 4, 2)) rfl
theorem dX3_equal_239 : decode cX3_equal 239 = .ok (.iinc 5 1, 3) := decs_at bnd_x32_28 12 (x := (239, .iinc 5 1, 3)) rfl
theorem dX3_equal_242 : decode cX3_equal 242 = .ok (.goto (-73), 3) := decs_at bnd_x32_28 13 (x := (242, .goto (-73), 3)) rfl
theorem dX3_equal_245 : decode cX3_equal 245 = .ok (.iload 4, 2) := decs_at bnd_x32_28 14 (x := (245, .iload 4, 2)) rfl
theorem dX3_equal_247 : decode cX3_equal 247 = .ok (.ifCond .eq 7, 3) := decs_at bnd_x32_28 15 (x := (247, .ifCond .eq 7, 3)) rfl
theorem dX3_equal_250 : decode cX3_equal 250 = .ok (.iconst 1, 1) := decs_at bnd_x32_28 16 (x := (250, .iconst 1, 1)) rfl
theorem dX3_equal_251 : decode cX3_equal 251 = .ok (.goto 4, 3) := decs_at bnd_x32_28 17 (x := (251, .goto 4, 3)) rfl
theorem dX3_equal_254 : decode cX3_equal 254 = .ok (.iconst 0, 1) := decs_at bnd_x32_28 18 (x := (254, .iconst 0, 1)) rfl
theorem dX3_equal_255 : decode cX3_equal 255 = .ok (.ireturn, 1) := decs_at bnd_x32_28 19 (x := (255, .ireturn, 1)) rfl
theorem bnd_x32_29 : decs cX3_isChanged [(0, .iload_n 3, 1), (1, .bipush 9, 2), (3, .if_icmp .eq 35, 3), (6, .aload_n 0, 1), (7, .getfield 17, 3), (10, .bipush 17, 2), (12, .iload_n 1, 1), (13, .imul, 1), (14, .iload_n 3, 1), (15, .iadd, 1), (16, .laload, 1), (17, .aload_n 0, 1), (18, .getfield 17, 3), (21, .bipush 17, 2), (23, .iload_n 2, 1), (24, .imul, 1), (25, .iload_n 3, 1), (26, .iadd, 1), (27, .laload, 1), (28, .lcmp, 1), (29, .ifCond .eq 7, 3), (32, .iconst 1, 1), (33, .goto 4, 3), (36, .iconst 0, 1)] = true := by decide +kernel
theorem dX3_isChanged_0 : decode cX3_isChanged 0 = .ok (.iload_n 3, 1) := decs_at bnd_x32_29 0 (x := (0, .iload_n 3, 1)) rfl
theorem dX3_isChanged_1 : decode cX3_isChanged 1 = .ok (.bipush 9, 2) := decs_at bnd_x32_29 1 (x := (1, .bipush 9, 2)) rfl
theorem dX3_isChanged_3 : decode cX3_isChanged 3 = .ok (.if_icmp .eq 35, 3) := decs_at bnd_x32_29 2 (x := (3, .if_icmp .eq 35, 3)) rfl
theorem dX3_isChanged_6 : decode cX3_isChanged 6 = .ok (.aload_n 0, 1) := decs_at bnd_x32_29 3 (x := (6, .aload_n 0, 1)) rfl
theorem dX3_isChanged_7 : decode cX3_isChanged 7 = .ok (.getfield 17, 3) := decs_at bnd_x32_29 4 (x := (7, .getfield 17, 3)) rfl
theorem dX3_isChanged_10 : decode cX3_isChanged 10 = .ok (.bipush 17, 2) := decs_at bnd_x32_29 5 (x := (10, .bipush 17, 2)) rfl
theorem dX3_isChanged_12 : decode cX3_isChanged 12 = .ok (.iload_n 1, 1) := decs_at bnd_x32_29 6 (x := (12, .iload_n 1, 1)) rfl
theorem dX3_isChanged_13 : decode cX3_isChanged 13 = .ok (.imul, 1) := decs_at bnd_x32_29 7 (x := (13, .imul, 1)) rfl
theorem dX3_isChanged_14 : decode cX3_isChanged 14 = .ok (.iload_n 3, 1) := decs_at bnd_x32_29 8 (x := (14, .iload_n 3, 1)) rfl
theorem dX3_isChanged_15 : decode cX3_isChanged 15 = .ok (.iadd, 1) := decs_at bnd_x32_29 9 (x := (15, .iadd, 1)) rfl
theorem dX3_isChanged_16 : decode cX3_isChanged 16 = .ok (.laload, 1) := decs_at bnd_x32_29 10 (x := (16, .laload, 1)) rfl
theorem dX3_isChanged_17 : decode cX3_isChanged 17 = .ok (.aload_n 0, 1) := decs_at bnd_x32_29 11 (x := (17, .aload_n 0, 1)) rfl
theorem dX3_isChanged_18 : decode cX3_isChanged 18 = .ok (.getfield 17, 3) := decs_at bnd_x32_29 12 (x := (18, .getfield 17, 3)) rfl
theorem dX3_isChanged_21 : decode cX3_isChanged 21 = .ok (.bipush 17, 2) := decs_at bnd_x32_29 13 (x := (21, .bipush 17, 2)) rfl
theorem dX3_isChanged_23 : decode cX3_isChanged 23 = .ok (.iload_n 2, 1) := decs_at bnd_x32_29 14 (x := (23, .iload_n 2, 1)) rfl
theorem dX3_isChanged_24 : decode cX3_isChanged 24 = .ok (.imul, 1) := decs_at bnd_x32_29 15 (x := (24, .imul, 1)) rfl
theorem dX3_isChanged_25 : decode cX3_isChanged 25 = .ok (.iload_n 3, 1) := decs_at bnd_x32_29 16 (x := (25, .iload_n 3, 1)) rfl
theorem dX3_isChanged_26 : decode cX3_isChanged 26 = .ok (.iadd, 1) := decs_at bnd_x32_29 17 (x := (26, .iadd, 1)) rfl
theorem dX3_isChanged_27 : decode cX3_isChanged 27 = .ok (.laload, 1) := decs_at bnd_x32_29 18 (x := (27, .laload, 1)) rfl
theorem dX3_isChanged_28 : decode cX3_isChanged 28 = .ok (.lcmp, 1) := decs_at bnd_x32_29 19 (x := (28, .lcmp, 1)) rfl
theorem dX3_isChanged_29 : decode cX3_isChanged 29 = .ok (.ifCond .eq 7, 3) := decs_at bnd_x32_29 20 (x := (29, .ifCond .eq 7, 3)) rfl
theorem dX3_isChanged_32 : decode cX3_isChanged 32 = .ok (.iconst 1, 1) := decs_at bnd_x32_29 21 (x := (32, .iconst 1, 1)) rfl
theorem dX3_isChanged_33 : decode cX3_isChanged 33 = .ok (.goto 4, 3) := decs_at bnd_x32_29 22 (x := (33, .goto 4, 3)) rfl
theorem dX3_isChanged_36 : decode cX3_isChanged 36 = .ok (.iconst 0, 1) := decs_at bnd_x32_29 23 (x := (36, .iconst 0, 1)) rfl
theorem bnd_x32_30 : decs cX3_isChanged [(37, .ireturn, 1), (38, .aload_n 0, 1), (39, .getfield 21, 3), (42, .iload_n 1, 1), (43, .iaload, 1), (44, .aload_n 0, 1), (45, .getfield 21, 3), (48, .iload_n 2, 1), (49, .iaload, 1), (50, .if_icmp .eq 7, 3), (53, .iconst 1, 1), (54, .goto 4, 3), (57, .iconst 0, 1), (58, .istore 4, 2), (60, .iconst 0, 1), (61, .istore 5, 2), (63, .iload 5, 2), (65, .aload_n 0, 1), (66, .getfield 21, 3), (69, .iload_n 1, 1), (70, .iaload, 1), (71, .if_icmp .ge 48, 3), (74, .iload 4, 2), (76, .ifCond .ne 43, 3)] = true := by decide +kernel
theorem dX3_isChanged_37 : decode cX3_isChanged 37 = .ok (.ireturn, 1) := decs_at bnd_x32_30 0 (x := (37, .ireturn, 1)) rfl
theorem dX3_isChanged_38 : decode cX3_isChanged 38 = .ok (.aload_n 0, 1) := decs_at bnd_x32_30 1 (x := (38, .aload_n 0, 1)) rfl
theorem dX3_isChanged_39 : decode cX3_isChanged 39 = .ok (.getfield 21, 3) := decs_at bnd_x32_30 2 (x := (39, .getfield 21, 3)) rfl
theorem dX3_isChanged_42 : decode cX3_isChanged 42 = .ok (.iload_n 1, 1) := decs_at bnd_x32_30 3 (x := (42, .iload_n 1, 1)) rfl
theorem dX3_isChanged_43 : decode cX3_isChanged 43 = .ok (.iaload, 1) := decs_at bnd_x32_30 4 (x := (43, .iaload, 1)) rfl
theorem dX3_isChanged_44 : decode cX3_isChanged 44 = .ok (.aload_n 0, 1) := decs_at bnd_x32_30 5 (x := (44, .aload_n 0, 1)) rfl
theorem dX3_isChanged_45 : decode cX3_isChanged 45 = .ok (.getfield 21, 3) := decs_at bnd_x32_30 6 (x := (45, .getfield 21, 3)) rfl
theorem dX3_isChanged_48 : decode cX3_isChanged 48 = .ok (.iload_n 2, 1) := decs_at bnd_x32_30 7 (x := (48, .iload_n 2, 1)) rfl
theorem dX3_isChanged_49 : decode cX3_isChanged 49 = .ok (.iaload, 1) := decs_at bnd_x32_30 8 (x := (49, .iaload, 1)) rfl
theorem dX3_isChanged_50 : decode cX3_isChanged 50 = .ok (.if_icmp .eq 7, 3) := decs_at bnd_x32_30 9 (x := (50, .if_icmp .eq 7, 3)) rfl
theorem dX3_isChanged_53 : decode cX3_isChanged 53 = .ok (.iconst 1, 1) := decs_at bnd_x32_30 10 (x := (53, .iconst 1, 1)) rfl
theorem dX3_isChanged_54 : decode cX3_isChanged 54 = .ok (.goto 4, 3) := decs_at bnd_x32_30 11 (x := (54, .goto 4, 3)) rfl
theorem dX3_isChanged_57 : decode cX3_isChanged 57 = .ok (.iconst 0, 1) := decs_at bnd_x32_30 12 (x := (57, .iconst 0, 1)) rfl
theorem dX3_isChanged_58 : decode cX3_isChanged 58 = .ok (.istore 4, 2) := decs_at bnd_x32_30 13 (x := (58, .istore 4, 2)) rfl
theorem dX3_isChanged_60 : decode cX3_isChanged 60 = .ok (.iconst 0, 1) := decs_at bnd_x32_30 14 (x := (60, .iconst 0, 1)) rfl
theorem dX3_isChanged_61 : decode cX3_isChanged 61 = .ok (.istore 5, 2) := decs_at bnd_x32_30 15 (x := (61, .istore 5, 2)) rfl
theorem dX3_isChanged_63 : decode cX3_isChanged 63 = .ok (.iload 5, 2) := decs_at bnd_x32_30 16 (x := (63, .iload 5, 2)) rfl
theorem dX3_isChanged_65 : decode cX3_isChanged 65 = .ok (.aload_n 0, 1) := decs_at bnd_x32_30 17 (x := (65, .aload_n 0, 1)) rfl
theorem dX3_isChanged_66 : decode cX3_isChanged 66 = .ok (.getfield 21, 3) := decs_at bnd_x32_30 18 (x := (66, .getfield 21, 3)) rfl
theorem dX3_isChanged_69 : decode cX3_isChanged 69 = .ok (.iload_n 1, 1) := decs_at bnd_x32_30 19 (x := (69, .iload_n 1, 1)) rfl
theorem dX3_isChanged_70 : decode cX3_isChanged 70 = .ok (.iaload, 1) := decs_at bnd_x32_30 20 (x := (70, .iaload, 1)) rfl
theorem dX3_isChanged_71 : decode cX3_isChanged 71 = .ok (.if_icmp .ge 48, 3) := decs_at bnd_x32_30 21 (x := (71, .if_icmp .ge 48, 3)) rfl
theorem dX3_isChanged_74 : decode cX3_isChanged 74 = .ok (.iload 4, 2) := decs_at bnd_x32_30 22 (x := (74, .iload 4, 2)) rfl
theorem dX3_isChanged_76 : decode cX3_isChanged 76 = .ok (.ifCond .ne 43, 3) := decs_at bnd_x32_30 23 (x := (76, .ifCond .ne 43, 3)) rfl
theorem bnd_x32_31 : decs cX3_isChanged [(79, .aload_n 0, 1), (80, .getfield 25, 3), (83, .bipush 20, 2), (85, .iload_n 1, 1), (86, .imul, 1), (87, .iload 5, 2), (89, .iadd, 1), (90, .iaload, 1), (91, .aload_n 0, 1), (92, .getfield 25, 3), (95, .bipush 20, 2), (97, .iload_n 2, 1), (98, .imul, 1), (99, .iload 5, 2), (101, .iadd, 1), (102, .iaload, 1), (103, .if_icmp .eq 7, 3), (106, .iconst 1, 1), (107, .goto 4, 3), (110, .iconst 0, 1), (111, .istore 4, 2), (113, .iinc 5 1, 3), (116, .goto (-53), 3), (119, .iload 4, 2)] = true := by decide +kernel
theorem dX3_isChanged_79 : decode cX3_isChanged 79 = .ok (.aload_n 0, 1) := decs_at bnd_x32_31 0 (x := (79, .aload_n 0, 1)) rfl
theorem dX3_isChanged_80 : decode cX3_isChanged 80 = .ok (.getfield 25, 3) := decs_at bnd_x32_31 1 (x := (80, .getfield 25, 3)) rfl
theorem dX3_isChanged_83 : decode cX3_isChanged 83 = .ok (.bipush 20, 2) := decs_at bnd_x32_31 2 (x := (83, .bipush 20, 2)) rfl
theorem dX3_isChanged_85 : decode cX3_isChanged 85 = .ok (.iload_n 1, 1) := decs_at bnd_x32_31 3 (x := (85, .iload_n 1, 1)) rfl
theorem dX3_isChanged_86 : decode cX3_isChanged 86 = .ok (.imul, 1) := decs_at bnd_x32_31 4 (x := (86, .imul, 1)) rfl
theorem dX3_isChanged_87 : decode cX3_isChanged 87 = .ok (.iload 5, 2) := decs_at bnd_x32_31 5 (x := (87, .iload 5, 2)) rfl
theorem dX3_isChanged_89 : decode cX3_isChanged 89 = .ok (.iadd, 1) := decs_at bnd_x32_31 6 (x := (89, .iadd, 1)) rfl
theorem dX3_isChanged_90 : decode cX3_isChanged 90 = .ok (.iaload, 1) := decs_at bnd_x32_31 7 (x := (90, .iaload, 1)) rfl
theorem dX3_isChanged_91 : decode cX3_isChanged 91 = .ok (.aload_n 0, 1) := decs_at bnd_x32_31 8 (x := (91, .aload_n 0, 1)) rfl
theorem dX3_isChanged_92 : decode cX3_isChanged 92 = .ok (.getfield 25, 3) := decs_at bnd_x32_31 9 (x := (92, .getfield 25, 3)) rfl
theorem dX3_isChanged_95 : decode cX3_isChanged 95 = .ok (.bipush 20, 2) := decs_at bnd_x32_31 10 (x := (95, .bipush 20, 2)) rfl
theorem dX3_isChanged_97 : decode cX3_isChanged 97 = .ok (.iload_n 2, 1) := decs_at bnd_x32_31 11 (x := (97, .iload_n 2, 1)) rfl
theorem dX3_isChanged_98 : decode cX3_isChanged 98 = .ok (.imul, 1) := decs_at bnd_x32_31 12 (x := (98, .imul, 1)) rfl
theorem dX3_isChanged_99 : decode cX3_isChanged 99 = .ok (.iload 5, 2) := decs_at bnd_x32_31 13 (x := (99, .iload 5, 2)) rfl
theorem dX3_isChanged_101 : decode cX3_isChanged 101 = .ok (.iadd, 1) := decs_at bnd_x32_31 14 (x := (101, .iadd, 1)) rfl
theorem dX3_isChanged_102 : decode cX3_isChanged 102 = .ok (.iaload, 1) := decs_at bnd_x32_31 15 (x := (102, .iaload, 1)) rfl
theorem dX3_isChanged_103 : decode cX3_isChanged 103 = .ok (.if_icmp .eq 7, 3) := decs_at bnd_x32_31 16 (x := (103, .if_icmp .eq 7, 3)) rfl
theorem dX3_isChanged_106 : decode cX3_isChanged 106 = .ok (.iconst 1, 1) := decs_at bnd_x32_31 17 (x := (106, .iconst 1, 1)) rfl
theorem dX3_isChanged_107 : decode cX3_isChanged 107 = .ok (.goto 4, 3) := decs_at bnd_x32_31 18 (x := (107, .goto 4, 3)) rfl
theorem dX3_isChanged_110 : decode cX3_isChanged 110 = .ok (.iconst 0, 1) := decs_at bnd_x32_31 19 (x := (110, .iconst 0, 1)) rfl
theorem dX3_isChanged_111 : decode cX3_isChanged 111 = .ok (.istore 4, 2) := decs_at bnd_x32_31 20 (x := (111, .istore 4, 2)) rfl
theorem dX3_isChanged_113 : decode cX3_isChanged 113 = .ok (.iinc 5 1, 3) := decs_at bnd_x32_31 21 (x := (113, .iinc 5 1, 3)) rfl
theorem dX3_isChanged_116 : decode cX3_isChanged 116 = .ok (.goto (-53), 3) := decs_at bnd_x32_31 22 (x := (116, .goto (-53), 3)) rfl
theorem dX3_isChanged_119 : decode cX3_isChanged 119 = .ok (.iload 4, 2) := decs_at bnd_x32_31 23 (x := (119, .iload 4, 2)) rfl
theorem dX3_isChanged_121 : decode cX3_isChanged 121 = .ok (.ireturn, 1) := by decide +kernel
set_option maxRecDepth 20000 in
theorem ggX3_changed_X3_isSlot : GoodIn wsX3_changed wsX3_isSlot := goodIn_r _ [6, 7, 8, 9, 5, 10] rfl (by decide +kernel)
set_option maxRecDepth 20000 in
theorem gX3_changed_X3_isSlot : GoodIn wsX3_changed (va_wsS RX3 84 yX3_isSlot wsX3_isSlot) := goodIn_app (goodIn_r _ [3, 4, 5] rfl (by decide +kernel)) ggX3_changed_X3_isSlot
set_option maxRecDepth 20000 in
theorem ggX3_changed_X3_has : GoodIn wsX3_changed wsX3_has := goodIn_r _ [13] rfl (by decide +kernel)
set_option maxRecDepth 20000 in
theorem gX3_changed_X3_has : GoodIn wsX3_changed (va_wsS RX3 78 yX3_has wsX3_has) := goodIn_app (goodIn_r _ [11, 12, 5] rfl (by decide +kernel)) ggX3_changed_X3_has
set_option maxRecDepth 20000 in
theorem ggX3_changed_X3_isChanged : GoodIn wsX3_changed wsX3_isChanged := goodIn_r _ [17, 18, 19, 20, 21, 22, 23, 24, 25, 26, 27, 28, 29, 30, 31, 32, 33, 34, 35, 36, 37, 38, 39, 40, 41, 42, 43] rfl (by decide +kernel)
set_option maxRecDepth 20000 in
theorem gX3_changed_X3_isChanged : GoodIn wsX3_changed (wsV RX3 191 RX3 yX3_isChanged wsX3_isChanged) := goodIn_app (goodIn_r _ [14, 15, 16, 5] rfl (by decide +kernel)) ggX3_changed_X3_isChanged
theorem bnd_x32_32 : decs cX3_changed [(0, .iload_n 1, 1), (1, .invokestatic 84, 3), (4, .ifCond .eq 14, 3), (7, .iload_n 2, 1), (8, .invokestatic 84, 3), (11, .ifCond .eq 7, 3), (14, .iload_n 3, 1), (15, .ifCond .ge 5, 3), (18, .iconst (-1), 1), (19, .ireturn, 1), (20, .aload_n 0, 1), (21, .getfield 7, 3), (24, .iload_n 1, 1), (25, .iaload, 1), (26, .istore 4, 2), (28, .aload_n 0, 1), (29, .getfield 7, 3), (32, .iload_n 2, 1), (33, .iaload, 1), (34, .istore 5, 2), (36, .iload 4, 2), (38, .iconst (-1), 1), (39, .if_icmp .eq 9, 3), (42, .iload 5, 2)] = true := by decide +kernel
theorem dX3_changed_0 : decode cX3_changed 0 = .ok (.iload_n 1, 1) := decs_at bnd_x32_32 0 (x := (0, .iload_n 1, 1)) rfl
theorem dX3_changed_1 : decode cX3_changed 1 = .ok (.invokestatic 84, 3) := decs_at bnd_x32_32 1 (x := (1, .invokestatic 84, 3)) rfl
theorem dX3_changed_4 : decode cX3_changed 4 = .ok (.ifCond .eq 14, 3) := decs_at bnd_x32_32 2 (x := (4, .ifCond .eq 14, 3)) rfl
theorem dX3_changed_7 : decode cX3_changed 7 = .ok (.iload_n 2, 1) := decs_at bnd_x32_32 3 (x := (7, .iload_n 2, 1)) rfl
theorem dX3_changed_8 : decode cX3_changed 8 = .ok (.invokestatic 84, 3) := decs_at bnd_x32_32 4 (x := (8, .invokestatic 84, 3)) rfl
theorem dX3_changed_11 : decode cX3_changed 11 = .ok (.ifCond .eq 7, 3) := decs_at bnd_x32_32 5 (x := (11, .ifCond .eq 7, 3)) rfl
theorem dX3_changed_14 : decode cX3_changed 14 = .ok (.iload_n 3, 1) := decs_at bnd_x32_32 6 (x := (14, .iload_n 3, 1)) rfl
theorem dX3_changed_15 : decode cX3_changed 15 = .ok (.ifCond .ge 5, 3) := decs_at bnd_x32_32 7 (x := (15, .ifCond .ge 5, 3)) rfl
theorem dX3_changed_18 : decode cX3_changed 18 = .ok (.iconst (-1), 1) := decs_at bnd_x32_32 8 (x := (18, .iconst (-1), 1)) rfl
theorem dX3_changed_19 : decode cX3_changed 19 = .ok (.ireturn, 1) := decs_at bnd_x32_32 9 (x := (19, .ireturn, 1)) rfl
theorem dX3_changed_20 : decode cX3_changed 20 = .ok (.aload_n 0, 1) := decs_at bnd_x32_32 10 (x := (20, .aload_n 0, 1)) rfl
theorem dX3_changed_21 : decode cX3_changed 21 = .ok (.getfield 7, 3) := decs_at bnd_x32_32 11 (x := (21, .getfield 7, 3)) rfl
theorem dX3_changed_24 : decode cX3_changed 24 = .ok (.iload_n 1, 1) := decs_at bnd_x32_32 12 (x := (24, .iload_n 1, 1)) rfl
theorem dX3_changed_25 : decode cX3_changed 25 = .ok (.iaload, 1) := decs_at bnd_x32_32 13 (x := (25, .iaload, 1)) rfl
theorem dX3_changed_26 : decode cX3_changed 26 = .ok (.istore 4, 2) := decs_at bnd_x32_32 14 (x := (26, .istore 4, 2)) rfl
theorem dX3_changed_28 : decode cX3_changed 28 = .ok (.aload_n 0, 1) := decs_at bnd_x32_32 15 (x := (28, .aload_n 0, 1)) rfl
theorem dX3_changed_29 : decode cX3_changed 29 = .ok (.getfield 7, 3) := decs_at bnd_x32_32 16 (x := (29, .getfield 7, 3)) rfl
theorem dX3_changed_32 : decode cX3_changed 32 = .ok (.iload_n 2, 1) := decs_at bnd_x32_32 17 (x := (32, .iload_n 2, 1)) rfl
theorem dX3_changed_33 : decode cX3_changed 33 = .ok (.iaload, 1) := decs_at bnd_x32_32 18 (x := (33, .iaload, 1)) rfl
theorem dX3_changed_34 : decode cX3_changed 34 = .ok (.istore 5, 2) := decs_at bnd_x32_32 19 (x := (34, .istore 5, 2)) rfl
theorem dX3_changed_36 : decode cX3_changed 36 = .ok (.iload 4, 2) := decs_at bnd_x32_32 20 (x := (36, .iload 4, 2)) rfl
theorem dX3_changed_38 : decode cX3_changed 38 = .ok (.iconst (-1), 1) := decs_at bnd_x32_32 21 (x := (38, .iconst (-1), 1)) rfl
theorem dX3_changed_39 : decode cX3_changed 39 = .ok (.if_icmp .eq 9, 3) := decs_at bnd_x32_32 22 (x := (39, .if_icmp .eq 9, 3)) rfl
theorem dX3_changed_42 : decode cX3_changed 42 = .ok (.iload 5, 2) := decs_at bnd_x32_32 23 (x := (42, .iload 5, 2)) rfl
theorem bnd_x32_33 : decs cX3_changed [(44, .iconst (-1), 1), (45, .if_icmp .ne 6, 3), (48, .bipush (-11), 2), (50, .ireturn, 1), (51, .aload_n 0, 1), (52, .getfield 13, 3), (55, .iload 4, 2), (57, .iaload, 1), (58, .aload_n 0, 1), (59, .getfield 13, 3), (62, .iload 5, 2), (64, .iaload, 1), (65, .if_icmp .eq 6, 3), (68, .bipush (-14), 2), (70, .ireturn, 1), (71, .iload_n 3, 1), (72, .istore 6, 2), (74, .iconst 0, 1), (75, .istore 7, 2), (77, .iload 7, 2), (79, .bipush 17, 2), (81, .if_icmp .ge 48, 3), (84, .aload_n 0, 1), (85, .getfield 13, 3)] = true := by decide +kernel
theorem dX3_changed_44 : decode cX3_changed 44 = .ok (.iconst (-1), 1) := decs_at bnd_x32_33 0 (x := (44, .iconst (-1), 1)) rfl
theorem dX3_changed_45 : decode cX3_changed 45 = .ok (.if_icmp .ne 6, 3) := decs_at bnd_x32_33 1 (x := (45, .if_icmp .ne 6, 3)) rfl
theorem dX3_changed_48 : decode cX3_changed 48 = .ok (.bipush (-11), 2) := decs_at bnd_x32_33 2 (x := (48, .bipush (-11), 2)) rfl
theorem dX3_changed_50 : decode cX3_changed 50 = .ok (.ireturn, 1) := decs_at bnd_x32_33 3 (x := (50, .ireturn, 1)) rfl
theorem dX3_changed_51 : decode cX3_changed 51 = .ok (.aload_n 0, 1) := decs_at bnd_x32_33 4 (x := (51, .aload_n 0, 1)) rfl
theorem dX3_changed_52 : decode cX3_changed 52 = .ok (.getfield 13, 3) := decs_at bnd_x32_33 5 (x := (52, .getfield 13, 3)) rfl
theorem dX3_changed_55 : decode cX3_changed 55 = .ok (.iload 4, 2) := decs_at bnd_x32_33 6 (x := (55, .iload 4, 2)) rfl
theorem dX3_changed_57 : decode cX3_changed 57 = .ok (.iaload, 1) := decs_at bnd_x32_33 7 (x := (57, .iaload, 1)) rfl
theorem dX3_changed_58 : decode cX3_changed 58 = .ok (.aload_n 0, 1) := decs_at bnd_x32_33 8 (x := (58, .aload_n 0, 1)) rfl
theorem dX3_changed_59 : decode cX3_changed 59 = .ok (.getfield 13, 3) := decs_at bnd_x32_33 9 (x := (59, .getfield 13, 3)) rfl
theorem dX3_changed_62 : decode cX3_changed 62 = .ok (.iload 5, 2) := decs_at bnd_x32_33 10 (x := (62, .iload 5, 2)) rfl
theorem dX3_changed_64 : decode cX3_changed 64 = .ok (.iaload, 1) := decs_at bnd_x32_33 11 (x := (64, .iaload, 1)) rfl
theorem dX3_changed_65 : decode cX3_changed 65 = .ok (.if_icmp .eq 6, 3) := decs_at bnd_x32_33 12 (x := (65, .if_icmp .eq 6, 3)) rfl
theorem dX3_changed_68 : decode cX3_changed 68 = .ok (.bipush (-14), 2) := decs_at bnd_x32_33 13 (x := (68, .bipush (-14), 2)) rfl
theorem dX3_changed_70 : decode cX3_changed 70 = .ok (.ireturn, 1) := decs_at bnd_x32_33 14 (x := (70, .ireturn, 1)) rfl
theorem dX3_changed_71 : decode cX3_changed 71 = .ok (.iload_n 3, 1) := decs_at bnd_x32_33 15 (x := (71, .iload_n 3, 1)) rfl
theorem dX3_changed_72 : decode cX3_changed 72 = .ok (.istore 6, 2) := decs_at bnd_x32_33 16 (x := (72, .istore 6, 2)) rfl
theorem dX3_changed_74 : decode cX3_changed 74 = .ok (.iconst 0, 1) := decs_at bnd_x32_33 17 (x := (74, .iconst 0, 1)) rfl
theorem dX3_changed_75 : decode cX3_changed 75 = .ok (.istore 7, 2) := decs_at bnd_x32_33 18 (x := (75, .istore 7, 2)) rfl
theorem dX3_changed_77 : decode cX3_changed 77 = .ok (.iload 7, 2) := decs_at bnd_x32_33 19 (x := (77, .iload 7, 2)) rfl
theorem dX3_changed_79 : decode cX3_changed 79 = .ok (.bipush 17, 2) := decs_at bnd_x32_33 20 (x := (79, .bipush 17, 2)) rfl
theorem dX3_changed_81 : decode cX3_changed 81 = .ok (.if_icmp .ge 48, 3) := decs_at bnd_x32_33 21 (x := (81, .if_icmp .ge 48, 3)) rfl
theorem dX3_changed_84 : decode cX3_changed 84 = .ok (.aload_n 0, 1) := decs_at bnd_x32_33 22 (x := (84, .aload_n 0, 1)) rfl
theorem dX3_changed_85 : decode cX3_changed 85 = .ok (.getfield 13, 3) := decs_at bnd_x32_33 23 (x := (85, .getfield 13, 3)) rfl

theorem bnd_x32_34 : decs cX3_changed [(88, .iload 4, 2), (90, .iaload, 1), (91, .iload 7, 2), (93, .invokestatic 78, 3), (96, .ifCond .eq 27, 3), (99, .aload_n 0, 1), (100, .iload 4, 2), (102, .iload 5, 2), (104, .iload 7, 2), (106, .invokevirtual 191, 3), (109, .ifCond .eq 14, 3), (112, .iload 6, 2), (114, .ifCond .ne 6, 3), (117, .iload 7, 2), (119, .ireturn, 1), (120, .iinc 6 (-1), 3), (123, .iinc 7 1, 3), (126, .goto (-49), 3), (129, .bipush (-4), 2), (131, .ireturn, 1)] = true := by decide +kernel
theorem dX3_changed_88 : decode cX3_changed 88 = .ok (.iload 4, 2) := decs_at bnd_x32_34 0 (x := (88, .iload 4, 2)) rfl
theorem dX3_changed_90 : decode cX3_changed 90 = .ok (.iaload, 1) := decs_at bnd_x32_34 1 (x := (90, .iaload, 1)) rfl
theorem dX3_changed_91 : decode cX3_changed 91 = .ok (.iload 7, 2) := decs_at bnd_x32_34 2 (x := (91, .iload 7, 2)) rfl
theorem dX3_changed_93 : decode cX3_changed 93 = .ok (.invokestatic 78, 3) := decs_at bnd_x32_34 3 (x := (93, .invokestatic 78, 3)) rfl
theorem dX3_changed_96 : decode cX3_changed 96 = .ok (.ifCond .eq 27, 3) := decs_at bnd_x32_34 4 (x := (96, .ifCond .eq 27, 3)) rfl
theorem dX3_changed_99 : decode cX3_changed 99 = .ok (.aload_n 0, 1) := decs_at bnd_x32_34 5 (x := (99, .aload_n 0, 1)) rfl
theorem dX3_changed_100 : decode cX3_changed 100 = .ok (.iload 4, 2) := decs_at bnd_x32_34 6 (x := (100, .iload 4, 2)) rfl
theorem dX3_changed_102 : decode cX3_changed 102 = .ok (.iload 5, 2) := decs_at bnd_x32_34 7 (x := (102, .iload 5, 2)) rfl
theorem dX3_changed_104 : decode cX3_changed 104 = .ok (.iload 7, 2) := decs_at bnd_x32_34 8 (x := (104, .iload 7, 2)) rfl
theorem dX3_changed_106 : decode cX3_changed 106 = .ok (.invokevirtual 191, 3) := decs_at bnd_x32_34 9 (x := (106, .invokevirtual 191, 3)) rfl
theorem dX3_changed_109 : decode cX3_changed 109 = .ok (.ifCond .eq 14, 3) := decs_at bnd_x32_34 10 (x := (109, .ifCond .eq 14, 3)) rfl
theorem dX3_changed_112 : decode cX3_changed 112 = .ok (.iload 6, 2) := decs_at bnd_x32_34 11 (x := (112, .iload 6, 2)) rfl
theorem dX3_changed_114 : decode cX3_changed 114 = .ok (.ifCond .ne 6, 3) := decs_at bnd_x32_34 12 (x := (114, .ifCond .ne 6, 3)) rfl
theorem dX3_changed_117 : decode cX3_changed 117 = .ok (.iload 7, 2) := decs_at bnd_x32_34 13 (x := (117, .iload 7, 2)) rfl
theorem dX3_changed_119 : decode cX3_changed 119 = .ok (.ireturn, 1) := decs_at bnd_x32_34 14 (x := (119, .ireturn, 1)) rfl
theorem dX3_changed_120 : decode cX3_changed 120 = .ok (.iinc 6 (-1), 3) := decs_at bnd_x32_34 15 (x := (120, .iinc 6 (-1), 3)) rfl
theorem dX3_changed_123 : decode cX3_changed 123 = .ok (.iinc 7 1, 3) := decs_at bnd_x32_34 16 (x := (123, .iinc 7 1, 3)) rfl
theorem dX3_changed_126 : decode cX3_changed 126 = .ok (.goto (-49), 3) := decs_at bnd_x32_34 17 (x := (126, .goto (-49), 3)) rfl
theorem dX3_changed_129 : decode cX3_changed 129 = .ok (.bipush (-4), 2) := decs_at bnd_x32_34 18 (x := (129, .bipush (-4), 2)) rfl
theorem dX3_changed_131 : decode cX3_changed 131 = .ok (.ireturn, 1) := decs_at bnd_x32_34 19 (x := (131, .ireturn, 1)) rfl