theorem bne_law0_0 : decs cL_law [(0, .new 7, 3), (3, .dup, 1), (4, .invokespecial 9, 3), (7, .astore_n 1, 1), (8, .new 10, 3), (11, .dup, 1), (12, .invokespecial 12, 3), (15, .astore_n 2, 1), (16, .iconst 0, 1), (17, .istore_n 3, 1), (18, .iload_n 3, 1), (19, .aload_n 0, 1), (20, .arraylength, 1), (21, .iconst 5, 1), (22, .isub, 1), (23, .if_icmp .gt 959, 3), (26, .aload_n 0, 1), (27, .iload_n 3, 1), (28, .iaload, 1), (29, .bipush 31, 2), (31, .iand, 1), (32, .tableswitch 944 0 23 #[112, 155, 178, 211, 244, 267, 300, 333, 406, 449, 492, 525, 568, 591, 624, 657, 680, 713, 726, 749, 782, 845, 868, 901], 112), (144, .aload_n 1, 1), (145, .aload_n 0, 1)] = true := by decide +kernel
theorem dL_law_0 : decode cL_law 0 = .ok (.new 7, 3) := decs_at bne_law0_0 0 (x := (0, .new 7, 3)) rfl
theorem dL_law_3 : decode cL_law 3 = .ok (.dup, 1) := decs_at bne_law0_0 1 (x := (3, .dup, 1)) rfl
theorem dL_law_4 : decode cL_law 4 = .ok (.invokespecial 9, 3) := decs_at bne_law0_0 2 (x := (4, .invokespecial 9, 3)) rfl
theorem dL_law_7 : decode cL_law 7 = .ok (.astore_n 1, 1) := decs_at bne_law0_0 3 (x := (7, .astore_n 1, 1)) rfl
theorem dL_law_8 : decode cL_law 8 = .ok (.new 10, 3) := decs_at bne_law0_0 4 (x := (8, .new 10, 3)) rfl
theorem dL_law_11 : decode cL_law 11 = .ok (.dup, 1) := decs_at bne_law0_0 5 (x := (11, .dup, 1)) rfl
theorem dL_law_12 : decode cL_law 12 = .ok (.invokespecial 12, 3) := decs_at bne_law0_0 6 (x := (12, .invokespecial 12, 3)) rfl
theorem dL_law_15 : decode cL_law 15 = .ok (.astore_n 2, 1) := decs_at bne_law0_0 7 (x := (15, .astore_n 2, 1)) rfl
theorem dL_law_16 : decode cL_law 16 = .ok (.iconst 0, 1) := decs_at bne_law0_0 8 (x := (16, .iconst 0, 1)) rfl
theorem dL_law_17 : decode cL_law 17 = .ok (.istore_n 3, 1) := decs_at bne_law0_0 9 (x := (17, .istore_n 3, 1)) rfl
theorem dL_law_18 : decode cL_law 18 = .ok (.iload_n 3, 1) := decs_at bne_law0_0 10 (x := (18, .iload_n 3, 1)) rfl
theorem dL_law_19 : decode cL_law 19 = .ok (.aload_n 0, 1) := decs_at bne_law0_0 11 (x := (19, .aload_n 0, 1)) rfl
theorem dL_law_20 : decode cL_law 20 = .ok (.arraylength, 1) := decs_at bne_law0_0 12 (x := (20, .arraylength, 1)) rfl
theorem dL_law_21 : decode cL_law 21 = .ok (.iconst 5, 1) := decs_at bne_law0_0 13 (x := (21, .iconst 5, 1)) rfl
theorem dL_law_22 : decode cL_law 22 = .ok (.isub, 1) := decs_at bne_law0_0 14 (x := (22, .isub, 1)) rfl
theorem dL_law_23 : decode cL_law 23 = .ok (.if_icmp .gt 959, 3) := decs_at bne_law0_0 15 (x := (23, .if_icmp .gt 959, 3)) rfl
theorem dL_law_26 : decode cL_law 26 = .ok (.aload_n 0, 1) := decs_at bne_law0_0 16 (x := (26, .aload_n 0, 1)) rfl
theorem dL_law_27 : decode cL_law 27 = .ok (.iload_n 3, 1) := decs_at bne_law0_0 17 (x := (27, .iload_n 3, 1)) rfl
theorem dL_law_28 : decode cL_law 28 = .ok (.iaload, 1) := decs_at bne_law0_0 18 (x := (28, .iaload, 1)) rfl
theorem dL_law_29 : decode cL_law 29 = .ok (.bipush 31, 2) := decs_at bne_law0_0 19 (x := (29, .bipush 31, 2)) rfl
theorem dL_law_31 : decode cL_law 31 = .ok (.iand, 1) := decs_at bne_law0_0 20 (x := (31, .iand, 1)) rfl
theorem dL_law_32 : decode cL_law 32 = .ok (.tableswitch 944 0 23 #[112, 155, 178, 211, 244, 267, 300, 333, 406, 449, 492, 525, 568, 591, 624, 657, 680, 713, 726, 749, 782, 845, 868, 901], 112) := decs_at bne_law0_0 21 (x := (32, .tableswitch 944 0 23 #[112, 155, 178, 211, 244, 267, 300, 333, 406, 449, 492, 525, 568, 591, 624, 657, 680, 713, 726, 749, 782, 845, 868, 901], 112)) rfl
theorem dL_law_144 : decode cL_law 144 = .ok (.aload_n 1, 1) := decs_at bne_law0_0 22 (x := (144, .aload_n 1, 1)) rfl
theorem dL_law_145 : decode cL_law 145 = .ok (.aload_n 0, 1) := decs_at bne_law0_0 23 (x := (145, .aload_n 0, 1)) rfl
theorem bne_law0_1 : decs cL_law [(146, .iload_n 3, 1), (147, .iconst 1, 1), (148, .iadd, 1), (149, .iaload, 1), (150, .aload_n 0, 1), (151, .iload_n 3, 1), (152, .iconst 2, 1), (153, .iadd, 1), (154, .iaload, 1), (155, .aload_n 0, 1), (156, .iload_n 3, 1), (157, .iconst 3, 1), (158, .iadd, 1), (159, .iaload, 1), (160, .invokevirtual 13, 3), (163, .pop, 1), (164, .aload_n 2, 1), (165, .aload_n 0, 1), (166, .iload_n 3, 1), (167, .iconst 1, 1), (168, .iadd, 1), (169, .iaload, 1), (170, .aload_n 0, 1), (171, .iload_n 3, 1)] = true := by decide +kernel
theorem dL_law_146 : decode cL_law 146 = .ok (.iload_n 3, 1) := decs_at bne_law0_1 0 (x := (146, .iload_n 3, 1)) rfl
theorem dL_law_147 : decode cL_law 147 = .ok (.iconst 1, 1) := decs_at bne_law0_1 1 (x := (147, .iconst 1, 1)) rfl
theorem dL_law_148 : decode cL_law 148 = .ok (.iadd, 1) := decs_at bne_law0_1 2 (x := (148, .iadd, 1)) rfl
theorem dL_law_149 : decode cL_law 149 = .ok (.iaload, 1) := decs_at bne_law0_1 3 (x := (149, .iaload, 1)) rfl
theorem dL_law_150 : decode cL_law 150 = .ok (.aload_n 0, 1) := decs_at bne_law0_1 4 (x := (150, .aload_n 0, 1)) rfl
theorem dL_law_151 : decode cL_law 151 = .ok (.iload_n 3, 1) := decs_at bne_law0_1 5 (x := (151, .iload_n 3, 1)) rfl
theorem dL_law_152 : decode cL_law 152 = .ok (.iconst 2, 1) := decs_at bne_law0_1 6 (x := (152, .iconst 2, 1)) rfl
theorem dL_law_153 : decode cL_law 153 = .ok (.iadd, 1) := decs_at bne_law0_1 7 (x := (153, .iadd, 1)) rfl
theorem dL_law_154 : decode cL_law 154 = .ok (.iaload, 1) := decs_at bne_law0_1 8 (x := (154, .iaload, 1)) rfl
theorem dL_law_155 : decode cL_law 155 = .ok (.aload_n 0, 1) := decs_at bne_law0_1 9 (x := (155, .aload_n 0, 1)) rfl
theorem dL_law_156 : decode cL_law 156 = .ok (.iload_n 3, 1) := decs_at bne_law0_1 10 (x := (156, .iload_n 3, 1)) rfl
theorem dL_law_157 : decode cL_law 157 = .ok (.iconst 3, 1) := decs_at bne_law0_1 11 (x := (157, .iconst 3, 1)) rfl
theorem dL_law_158 : decode cL_law 158 = .ok (.iadd, 1) := decs_at bne_law0_1 12 (x := (158, .iadd, 1)) rfl
theorem dL_law_159 : decode cL_law 159 = .ok (.iaload, 1) := decs_at bne_law0_1 13 (x := (159, .iaload, 1)) rfl
theorem dL_law_160 : decode cL_law 160 = .ok (.invokevirtual 13, 3) := decs_at bne_law0_1 14 (x := (160, .invokevirtual 13, 3)) rfl
theorem dL_law_163 : decode cL_law 163 = .ok (.pop, 1) := decs_at bne_law0_1 15 (x := (163, .pop, 1)) rfl
theorem dL_law_164 : decode cL_law 164 = .ok (.aload_n 2, 1) := decs_at bne_law0_1 16 (x := (164, .aload_n 2, 1)) rfl
theorem dL_law_165 : decode cL_law 165 = .ok (.aload_n 0, 1) := decs_at bne_law0_1 17 (x := (165, .aload_n 0, 1)) rfl
theorem dL_law_166 : decode cL_law 166 = .ok (.iload_n 3, 1) := decs_at bne_law0_1 18 (x := (166, .iload_n 3, 1)) rfl
theorem dL_law_167 : decode cL_law 167 = .ok (.iconst 1, 1) := decs_at bne_law0_1 19 (x := (167, .iconst 1, 1)) rfl
theorem dL_law_168 : decode cL_law 168 = .ok (.iadd, 1) := decs_at bne_law0_1 20 (x := (168, .iadd, 1)) rfl
theorem dL_law_169 : decode cL_law 169 = .ok (.iaload, 1) := decs_at bne_law0_1 21 (x := (169, .iaload, 1)) rfl
theorem dL_law_170 : decode cL_law 170 = .ok (.aload_n 0, 1) := decs_at bne_law0_1 22 (x := (170, .aload_n 0, 1)) rfl
theorem dL_law_171 : decode cL_law 171 = .ok (.iload_n 3, 1) := decs_at bne_law0_1 23 (x := (171, .iload_n 3, 1)) rfl
theorem bne_law0_2 : decs cL_law [(172, .iconst 2, 1), (173, .iadd, 1), (174, .iaload, 1), (175, .aload_n 0, 1), (176, .iload_n 3, 1), (177, .iconst 3, 1), (178, .iadd, 1), (179, .iaload, 1), (180, .invokevirtual 17, 3), (183, .pop, 1), (184, .goto 792, 3), (187, .aload_n 1, 1), (188, .aload_n 0, 1), (189, .iload_n 3, 1), (190, .iconst 1, 1), (191, .iadd, 1), (192, .iaload, 1), (193, .invokevirtual 18, 3), (196, .pop, 1), (197, .aload_n 2, 1), (198, .aload_n 0, 1), (199, .iload_n 3, 1), (200, .iconst 1, 1), (201, .iadd, 1)] = true := by decide +kernel
theorem dL_law_172 : decode cL_law 172 = .ok (.iconst 2, 1) := decs_at bne_law0_2 0 (x := (172, .iconst 2, 1)) rfl
theorem dL_law_173 : decode cL_law 173 = .ok (.iadd, 1) := decs_at bne_law0_2 1 (x := (173, .iadd, 1)) rfl
theorem dL_law_174 : decode cL_law 174 = .ok (.iaload, 1) := decs_at bne_law0_2 2 (x := (174, .iaload, 1)) rfl
theorem dL_law_175 : decode cL_law 175 = .ok (.aload_n 0, 1) := decs_at bne_law0_2 3 (x := (175, .aload_n 0, 1)) rfl
theorem dL_law_176 : decode cL_law 176 = .ok (.iload_n 3, 1) := decs_at bne_law0_2 4 (x := (176, .iload_n 3, 1)) rfl
theorem dL_law_177 : decode cL_law 177 = .ok (.iconst 3, 1) := decs_at bne_law0_2 5 (x := (177, .iconst 3, 1)) rfl
theorem dL_law_178 : decode cL_law 178 = .ok (.iadd, 1) := decs_at bne_law0_2 6 (x := (178, .iadd, 1)) rfl
theorem dL_law_179 : decode cL_law 179 = .ok (.iaload, 1) := decs_at bne_law0_2 7 (x := (179, .iaload, 1)) rfl
theorem dL_law_180 : decode cL_law 180 = .ok (.invokevirtual 17, 3) := decs_at bne_law0_2 8 (x := (180, .invokevirtual 17, 3)) rfl
theorem dL_law_183 : decode cL_law 183 = .ok (.pop, 1) := decs_at bne_law0_2 9 (x := (183, .pop, 1)) rfl
theorem dL_law_184 : decode cL_law 184 = .ok (.goto 792, 3) := decs_at bne_law0_2 10 (x := (184, .goto 792, 3)) rfl
theorem dL_law_187 : decode cL_law 187 = .ok (.aload_n 1, 1) := decs_at bne_law0_2 11 (x := (187, .aload_n 1, 1)) rfl
theorem dL_law_188 : decode cL_law 188 = .ok (.aload_n 0, 1) := decs_at bne_law0_2 12 (x := (188, .aload_n 0, 1)) rfl
theorem dL_law_189 : decode cL_law 189 = .ok (.iload_n 3, 1) := decs_at bne_law0_2 13 (x := (189, .iload_n 3, 1)) rfl
theorem dL_law_190 : decode cL_law 190 = .ok (.iconst 1, 1) := decs_at bne_law0_2 14 (x := (190, .iconst 1, 1)) rfl
theorem dL_law_191 : decode cL_law 191 = .ok (.iadd, 1) := decs_at bne_law0_2 15 (x := (191, .iadd, 1)) rfl
theorem dL_law_192 : decode cL_law 192 = .ok (.iaload, 1) := decs_at bne_law0_2 16 (x := (192, .iaload, 1)) rfl
theorem dL_law_193 : decode cL_law 193 = .ok (.invokevirtual 18, 3) := decs_at bne_law0_2 17 (x := (193, .invokevirtual 18, 3)) rfl
theorem dL_law_196 : decode cL_law 196 = .ok (.pop, 1) := decs_at bne_law0_2 18 (x := (196, .pop, 1)) rfl
theorem dL_law_197 : decode cL_law 197 = .ok (.aload_n 2, 1) := decs_at bne_law0_2 19 (x := (197, .aload_n 2, 1)) rfl
theorem dL_law_198 : decode cL_law 198 = .ok (.aload_n 0, 1) := decs_at bne_law0_2 20 (x := (198, .aload_n 0, 1)) rfl
theorem dL_law_199 : decode cL_law 199 = .ok (.iload_n 3, 1) := decs_at bne_law0_2 21 (x := (199, .iload_n 3, 1)) rfl
theorem dL_law_200 : decode cL_law 200 = .ok (.iconst 1, 1) := decs_at bne_law0_2 22 (x := (200, .iconst 1, 1)) rfl
theorem dL_law_201 : decode cL_law 201 = .ok (.iadd, 1) := decs_at bne_law0_2 23 (x := (201, .iadd, 1)) rfl
theorem bne_law0_3 : decs cL_law [(202, .iaload, 1), (203, .invokevirtual 22, 3), (206, .pop, 1), (207, .goto 769, 3), (210, .aload_n 1, 1), (211, .aload_n 0, 1), (212, .iload_n 3, 1), (213, .iconst 1, 1), (214, .iadd, 1), (215, .iaload, 1), (216, .aload_n 0, 1), (217, .iload_n 3, 1), (218, .iconst 2, 1), (219, .iadd, 1), (220, .iaload, 1), (221, .invokevirtual 23, 3), (224, .pop, 1), (225, .aload_n 2, 1), (226, .aload_n 0, 1), (227, .iload_n 3, 1), (228, .iconst 1, 1), (229, .iadd, 1), (230, .iaload, 1), (231, .aload_n 0, 1)] = true := by decide +kernel
theorem dL_law_202 : decode cL_law 202 = .ok (.iaload, 1) := decs_at bne_law0_3 0 (x := (202, .iaload, 1)) rfl
theorem dL_law_203 : decode cL_law 203 = .ok (.invokevirtual 22, 3) := decs_at bne_law0_3 1 (x := (203, .invokevirtual 22, 3)) rfl
theorem dL_law_206 : decode cL_law 206 = .ok (.pop, 1) := decs_at bne_law0_3 2 (x := (206, .pop, 1)) rfl
theorem dL_law_207 : decode cL_law 207 = .ok (.goto 769, 3) := decs_at bne_law0_3 3 (x := (207, .goto 769, 3)) rfl
theorem dL_law_210 : decode cL_law 210 = .ok (.aload_n 1, 1) := decs_at bne_law0_3 4 (x := (210, .aload_n 1, 1)) rfl
theorem dL_law_211 : decode cL_law 211 = .ok (.aload_n 0, 1) := decs_at bne_law0_3 5 (x := (211, .aload_n 0, 1)) rfl
theorem dL_law_212 : decode cL_law 212 = .ok (.iload_n 3, 1) := decs_at bne_law0_3 6 (x := (212, .iload_n 3, 1)) rfl
theorem dL_law_213 : decode cL_law 213 = .ok (.iconst 1, 1) := decs_at bne_law0_3 7 (x := (213, .iconst 1, 1)) rfl
theorem dL_law_214 : decode cL_law 214 = .ok (.iadd, 1) := decs_at bne_law0_3 8 (x := (214, .iadd, 1)) rfl
theorem dL_law_215 : decode cL_law 215 = .ok (.iaload, 1) := decs_at bne_law0_3 9 (x := (215, .iaload, 1)) rfl
theorem dL_law_216 : decode cL_law 216 = .ok (.aload_n 0, 1) := decs_at bne_law0_3 10 (x := (216, .aload_n 0, 1)) rfl
theorem dL_law_217 : decode cL_law 217 = .ok (.iload_n 3, 1) := decs_at bne_law0_3 11 (x := (217, .iload_n 3, 1)) rfl
theorem dL_law_218 : decode cL_law 218 = .ok (.iconst 2, 1) := decs_at bne_law0_3 12 (x := (218, .iconst 2, 1)) rfl
theorem dL_law_219 : decode cL_law 219 = .ok (.iadd, 1) := decs_at bne_law0_3 13 (x := (219, .iadd, 1)) rfl
theorem dL_law_220 : decode cL_law 220 = .ok (.iaload, 1) := decs_at bne_law0_3 14 (x := (220, .iaload, 1)) rfl
theorem dL_law_221 : decode cL_law 221 = .ok (.invokevirtual 23, 3) := decs_at bne_law0_3 15 (x := (221, .invokevirtual 23, 3)) rfl
theorem dL_law_224 : decode cL_law 224 = .ok (.pop, 1) := decs_at bne_law0_3 16 (x := (224, .pop, 1)) rfl
theorem dL_law_225 : decode cL_law 225 = .ok (.aload_n 2, 1) := decs_at bne_law0_3 17 (x := (225, .aload_n 2, 1)) rfl
theorem dL_law_226 : decode cL_law 226 = .ok (.aload_n 0, 1) := decs_at bne_law0_3 18 (x := (226, .aload_n 0, 1)) rfl
theorem dL_law_227 : decode cL_law 227 = .ok (.iload_n 3, 1) := decs_at bne_law0_3 19 (x := (227, .iload_n 3, 1)) rfl
theorem dL_law_228 : decode cL_law 228 = .ok (.iconst 1, 1) := decs_at bne_law0_3 20 (x := (228, .iconst 1, 1)) rfl
theorem dL_law_229 : decode cL_law 229 = .ok (.iadd, 1) := decs_at bne_law0_3 21 (x := (229, .iadd, 1)) rfl
theorem dL_law_230 : decode cL_law 230 = .ok (.iaload, 1) := decs_at bne_law0_3 22 (x := (230, .iaload, 1)) rfl
theorem dL_law_231 : decode cL_law 231 = .ok (.aload_n 0, 1) := decs_at bne_law0_3 23 (x := (231, .aload_n 0, 1)) rfl
theorem bne_law0_4 : decs cL_law [(232, .iload_n 3, 1), (233, .iconst 2, 1), (234, .iadd, 1), (235, .iaload, 1), (236, .invokevirtual 27, 3), (239, .pop, 1), (240, .goto 736, 3), (243, .aload_n 1, 1), (244, .aload_n 0, 1), (245, .iload_n 3, 1), (246, .iconst 1, 1), (247, .iadd, 1), (248, .iaload, 1), (249, .aload_n 0, 1), (250, .iload_n 3, 1), (251, .iconst 2, 1), (252, .iadd, 1), (253, .iaload, 1), (254, .invokevirtual 28, 3), (257, .pop, 1), (258, .aload_n 2, 1), (259, .aload_n 0, 1), (260, .iload_n 3, 1), (261, .iconst 1, 1)] = true := by decide +kernel
theorem dL_law_232 : decode cL_law 232 = .ok (.iload_n 3, 1) := decs_at bne_law0_4 0 (x := (232, .iload_n 3, 1)) rfl
theorem dL_law_233 : decode cL_law 233 = .ok (.iconst 2, 1) := decs_at bne_law0_4 1 (x := (233, .iconst 2, 1)) rfl
theorem dL_law_234 : decode cL_law 234 = .ok (.iadd, 1) := decs_at bne_law0_4 2 (x := (234, .iadd, 1)) rfl
theorem dL_law_235 : decode cL_law 235 = .ok (.iaload, 1) := decs_at bne_law0_4 3 (x := (235, .iaload, 1)) rfl
theorem dL_law_236 : decode cL_law 236 = .ok (.invokevirtual 27, 3) := decs_at bne_law0_4 4 (x := (236, .invokevirtual 27, 3)) rfl
theorem dL_law_239 : decode cL_law 239 = .ok (.pop, 1) := decs_at bne_law0_4 5 (x := (239, .pop, 1)) rfl
theorem dL_law_240 : decode cL_law 240 = .ok (.goto 736, 3) := decs_at bne_law0_4 6 (x := (240, .goto 736, 3)) rfl
theorem dL_law_243 : decode cL_law 243 = .ok (.aload_n 1, 1) := decs_at bne_law0_4 7 (x := (243, .aload_n 1, 1)) rfl
theorem dL_law_244 : decode cL_law 244 = .ok (.aload_n 0, 1) := decs_at bne_law0_4 8 (x := (244, .aload_n 0, 1)) rfl
theorem dL_law_245 : decode cL_law 245 = .ok (.iload_n 3, 1) := decs_at bne_law0_4 9 (x := (245, .iload_n 3, 1)) rfl
theorem dL_law_246 : decode cL_law 246 = .ok (.iconst 1, 1) := decs_at bne_law0_4 10 (x := (246, .iconst 1, 1)) rfl
theorem dL_law_247 : decode cL_law 247 = .ok (.iadd, 1) := decs_at bne_law0_4 11 (x := (247, .iadd, 1)) rfl
theorem dL_law_248 : decode cL_law 248 = .ok (.iaload, 1) := decs_at bne_law0_4 12 (x := (248, .iaload, 1)) rfl
theorem dL_law_249 : decode cL_law 249 = .ok (.aload_n 0, 1) := decs_at bne_law0_4 13 (x := (249, .aload_n 0, 1)) rfl
theorem dL_law_250 : decode cL_law 250 = .ok (.iload_n 3, 1) := decs_at bne_law0_4 14 (x := (250, .iload_n 3, 1)) rfl
theorem dL_law_251 : decode cL_law 251 = .ok (.iconst 2, 1) := decs_at bne_law0_4 15 (x := (251, .iconst 2, 1)) rfl
theorem dL_law_252 : decode cL_law 252 = .ok (.iadd, 1) := decs_at bne_law0_4 16 (x := (252, .iadd, 1)) rfl
theorem dL_law_253 : decode cL_law 253 = .ok (.iaload, 1) := decs_at bne_law0_4 17 (x := (253, .iaload, 1)) rfl
theorem dL_law_254 : decode cL_law 254 = .ok (.invokevirtual 28, 3) := decs_at bne_law0_4 18 (x := (254, .invokevirtual 28, 3)) rfl
theorem dL_law_257 : decode cL_law 257 = .ok (.pop, 1) := decs_at bne_law0_4 19 (x := (257, .pop, 1)) rfl
theorem dL_law_258 : decode cL_law 258 = .ok (.aload_n 2, 1) := decs_at bne_law0_4 20 (x := (258, .aload_n 2, 1)) rfl
theorem dL_law_259 : decode cL_law 259 = .ok (.aload_n 0, 1) := decs_at bne_law0_4 21 (x := (259, .aload_n 0, 1)) rfl
theorem dL_law_260 : decode cL_law 260 = .ok (.iload_n 3, 1) := decs_at bne_law0_4 22 (x := (260, .iload_n 3, 1)) rfl
theorem dL_law_261 : decode cL_law 261 = .ok (.iconst 1, 1) := decs_at bne_law0_4 23 (x := (261, .iconst 1, 1)) rfl
theorem bne_law0_5 : decs cL_law [(262, .iadd, 1), (263, .iaload, 1), (264, .aload_n 0, 1), (265, .iload_n 3, 1), (266, .iconst 2, 1), (267, .iadd, 1), (268, .iaload, 1), (269, .invokevirtual 31, 3), (272, .pop, 1), (273, .goto 703, 3), (276, .aload_n 1, 1), (277, .aload_n 0, 1), (278, .iload_n 3, 1), (279, .iconst 1, 1), (280, .iadd, 1), (281, .iaload, 1), (282, .invokevirtual 32, 3), (285, .pop, 1), (286, .aload_n 2, 1), (287, .aload_n 0, 1), (288, .iload_n 3, 1), (289, .iconst 1, 1), (290, .iadd, 1), (291, .iaload, 1)] = true := by decide +kernel
theorem dL_law_262 : decode cL_law 262 = .ok (.iadd, 1) := decs_at bne_law0_5 0 (x := (262, .iadd, 1)) rfl
theorem dL_law_263 : decode cL_law 263 = .ok (.iaload, 1) := decs_at bne_law0_5 1 (x := (263, .iaload, 1)) rfl
theorem dL_law_264 : decode cL_law 264 = .ok (.aload_n 0, 1) := decs_at bne_law0_5 2 (x := (264, .aload_n 0, 1)) rfl
theorem dL_law_265 : decode cL_law 265 = .ok (.iload_n 3, 1) := decs_at bne_law0_5 3 (x := (265, .iload_n 3, 1)) rfl
theorem dL_law_266 : decode cL_law 266 = .ok (.iconst 2, 1) := decs_at bne_law0_5 4 (x := (266, .iconst 2, 1)) rfl
theorem dL_law_267 : decode cL_law 267 = .ok (.iadd, 1) := decs_at bne_law0_5 5 (x := (267, .iadd, 1)) rfl
theorem dL_law_268 : decode cL_law 268 = .ok (.iaload, 1) := decs_at bne_law0_5 6 (x := (268, .iaload, 1)) rfl
theorem dL_law_269 : decode cL_law 269 = .ok (.invokevirtual 31, 3) := decs_at bne_law0_5 7 (x := (269, .invokevirtual 31, 3)) rfl
theorem dL_law_272 : decode cL_law 272 = .ok (.pop, 1) := decs_at bne_law0_5 8 (x := (272, .pop, 1)) rfl
theorem dL_law_273 : decode cL_law 273 = .ok (.goto 703, 3) := decs_at bne_law0_5 9 (x := (273, .goto 703, 3)) rfl
theorem dL_law_276 : decode cL_law 276 = .ok (.aload_n 1, 1) := decs_at bne_law0_5 10 (x := (276, .aload_n 1, 1)) rfl
theorem dL_law_277 : decode cL_law 277 = .ok (.aload_n 0, 1) := decs_at bne_law0_5 11 (x := (277, .aload_n 0, 1)) rfl
theorem dL_law_278 : decode cL_law 278 = .ok (.iload_n 3, 1) := decs_at bne_law0_5 12 (x := (278, .iload_n 3, 1)) rfl
theorem dL_law_279 : decode cL_law 279 = .ok (.iconst 1, 1) := decs_at bne_law0_5 13 (x := (279, .iconst 1, 1)) rfl
theorem dL_law_280 : decode cL_law 280 = .ok (.iadd, 1) := decs_at bne_law0_5 14 (x := (280, .iadd, 1)) rfl
theorem dL_law_281 : decode cL_law 281 = .ok (.iaload, 1) := decs_at bne_law0_5 15 (x := (281, .iaload, 1)) rfl
theorem dL_law_282 : decode cL_law 282 = .ok (.invokevirtual 32, 3) := decs_at bne_law0_5 16 (x := (282, .invokevirtual 32, 3)) rfl
theorem dL_law_285 : decode cL_law 285 = .ok (.pop, 1) := decs_at bne_law0_5 17 (x := (285, .pop, 1)) rfl
theorem dL_law_286 : decode cL_law 286 = .ok (.aload_n 2, 1) := decs_at bne_law0_5 18 (x := (286, .aload_n 2, 1)) rfl
theorem dL_law_287 : decode cL_law 287 = .ok (.aload_n 0, 1) := decs_at bne_law0_5 19 (x := (287, .aload_n 0, 1)) rfl
theorem dL_law_288 : decode cL_law 288 = .ok (.iload_n 3, 1) := decs_at bne_law0_5 20 (x := (288, .iload_n 3, 1)) rfl
theorem dL_law_289 : decode cL_law 289 = .ok (.iconst 1, 1) := decs_at bne_law0_5 21 (x := (289, .iconst 1, 1)) rfl
theorem dL_law_290 : decode cL_law 290 = .ok (.iadd, 1) := decs_at bne_law0_5 22 (x := (290, .iadd, 1)) rfl
theorem dL_law_291 : decode cL_law 291 = .ok (.iaload, 1) := decs_at bne_law0_5 23 (x := (291, .iaload, 1)) rfl
theorem bne_law0_6 : decs cL_law [(292, .invokevirtual 35, 3), (295, .pop, 1), (296, .goto 680, 3), (299, .aload_n 1, 1), (300, .aload_n 0, 1), (301, .iload_n 3, 1), (302, .iconst 1, 1), (303, .iadd, 1), (304, .iaload, 1), (305, .aload_n 0, 1), (306, .iload_n 3, 1), (307, .iconst 2, 1), (308, .iadd, 1), (309, .iaload, 1), (310, .invokevirtual 36, 3), (313, .pop, 1), (314, .aload_n 2, 1), (315, .aload_n 0, 1), (316, .iload_n 3, 1), (317, .iconst 1, 1), (318, .iadd, 1), (319, .iaload, 1), (320, .aload_n 0, 1), (321, .iload_n 3, 1)] = true := by decide +kernel
theorem dL_law_292 : decode cL_law 292 = .ok (.invokevirtual 35, 3) := decs_at bne_law0_6 0 (x := (292, .invokevirtual 35, 3)) rfl
theorem dL_law_295 : decode cL_law 295 = .ok (.pop, 1) := decs_at bne_law0_6 1 (x := (295, .pop, 1)) rfl
theorem dL_law_296 : decode cL_law 296 = .ok (.goto 680, 3) := decs_at bne_law0_6 2 (x := (296, .goto 680, 3)) rfl
theorem dL_law_299 : decode cL_law 299 = .ok (.aload_n 1, 1) := decs_at bne_law0_6 3 (x := (299, .aload_n 1, 1)) rfl
theorem dL_law_300 : decode cL_law 300 = .ok (.aload_n 0, 1) := decs_at bne_law0_6 4 (x := (300, .aload_n 0, 1)) rfl
theorem dL_law_301 : decode cL_law 301 = .ok (.iload_n 3, 1) := decs_at bne_law0_6 5 (x := (301, .iload_n 3, 1)) rfl
theorem dL_law_302 : decode cL_law 302 = .ok (.iconst 1, 1) := decs_at bne_law0_6 6 (x := (302, .iconst 1, 1)) rfl
theorem dL_law_303 : decode cL_law 303 = .ok (.iadd, 1) := decs_at bne_law0_6 7 (x := (303, .iadd, 1)) rfl
theorem dL_law_304 : decode cL_law 304 = .ok (.iaload, 1) := decs_at bne_law0_6 8 (x := (304, .iaload, 1)) rfl
theorem dL_law_305 : decode cL_law 305 = .ok (.aload_n 0, 1) := decs_at bne_law0_6 9 (x := (305, .aload_n 0, 1)) rfl
theorem dL_law_306 : decode cL_law 306 = .ok (.iload_n 3, 1) := decs_at bne_law0_6 10 (x := (306, .iload_n 3, 1)) rfl
theorem dL_law_307 : decode cL_law 307 = .ok (.iconst 2, 1) := decs_at bne_law0_6 11 (x := (307, .iconst 2, 1)) rfl
theorem dL_law_308 : decode cL_law 308 = .ok (.iadd, 1) := decs_at bne_law0_6 12 (x := (308, .iadd, 1)) rfl
theorem dL_law_309 : decode cL_law 309 = .ok (.iaload, 1) := decs_at bne_law0_6 13 (x := (309, .iaload, 1)) rfl
theorem dL_law_310 : decode cL_law 310 = .ok (.invokevirtual 36, 3) := decs_at bne_law0_6 14 (x := (310, .invokevirtual 36, 3)) rfl
theorem dL_law_313 : decode cL_law 313 = .ok (.pop, 1) := decs_at bne_law0_6 15 (x := (313, .pop, 1)) rfl
theorem dL_law_314 : decode cL_law 314 = .ok (.aload_n 2, 1) := decs_at bne_law0_6 16 (x := (314, .aload_n 2, 1)) rfl
theorem dL_law_315 : decode cL_law 315 = .ok (.aload_n 0, 1) := decs_at bne_law0_6 17 (x := (315, .aload_n 0, 1)) rfl
theorem dL_law_316 : decode cL_law 316 = .ok (.iload_n 3, 1) := decs_at bne_law0_6 18 (x := (316, .iload_n 3, 1)) rfl
theorem dL_law_317 : decode cL_law 317 = .ok (.iconst 1, 1) := decs_at bne_law0_6 19 (x := (317, .iconst 1, 1)) rfl
theorem dL_law_318 : decode cL_law 318 = .ok (.iadd, 1) := decs_at bne_law0_6 20 (x := (318, .iadd, 1)) rfl
theorem dL_law_319 : decode cL_law 319 = .ok (.iaload, 1) := decs_at bne_law0_6 21 (x := (319, .iaload, 1)) rfl
theorem dL_law_320 : decode cL_law 320 = .ok (.aload_n 0, 1) := decs_at bne_law0_6 22 (x := (320, .aload_n 0, 1)) rfl
theorem dL_law_321 : decode cL_law 321 = .ok (.iload_n 3, 1) := decs_at bne_law0_6 23 (x := (321, .iload_n 3, 1)) rfl
theorem bne_law0_7 : decs cL_law [(322, .iconst 2, 1), (323, .iadd, 1), (324, .iaload, 1), (325, .invokevirtual 39, 3), (328, .pop, 1), (329, .goto 647, 3), (332, .aload_n 1, 1), (333, .aload_n 0, 1), (334, .iload_n 3, 1), (335, .iconst 1, 1), (336, .iadd, 1), (337, .iaload, 1), (338, .aload_n 0, 1), (339, .iload_n 3, 1), (340, .iconst 2, 1), (341, .iadd, 1), (342, .iaload, 1), (343, .invokevirtual 40, 3), (346, .pop2, 1), (347, .aload_n 2, 1), (348, .aload_n 0, 1), (349, .iload_n 3, 1), (350, .iconst 1, 1), (351, .iadd, 1)] = true := by decide +kernel
theorem dL_law_322 : decode cL_law 322 = .ok (.iconst 2, 1) := decs_at bne_law0_7 0 (x := (322, .iconst 2, 1)) rfl
theorem dL_law_323 : decode cL_law 323 = .ok (.iadd, 1) := decs_at bne_law0_7 1 (x := (323, .iadd, 1)) rfl
theorem dL_law_324 : decode cL_law 324 = .ok (.iaload, 1) := decs_at bne_law0_7 2 (x := (324, .iaload, 1)) rfl
theorem dL_law_325 : decode cL_law 325 = .ok (.invokevirtual 39, 3) := decs_at bne_law0_7 3 (x := (325, .invokevirtual 39, 3)) rfl
theorem dL_law_328 : decode cL_law 328 = .ok (.pop, 1) := decs_at bne_law0_7 4 (x := (328, .pop, 1)) rfl
theorem dL_law_329 : decode cL_law 329 = .ok (.goto 647, 3) := decs_at bne_law0_7 5 (x := (329, .goto 647, 3)) rfl
theorem dL_law_332 : decode cL_law 332 = .ok (.aload_n 1, 1) := decs_at bne_law0_7 6 (x := (332, .aload_n 1, 1)) rfl
theorem dL_law_333 : decode cL_law 333 = .ok (.aload_n 0, 1) := decs_at bne_law0_7 7 (x := (333, .aload_n 0, 1)) rfl
theorem dL_law_334 : decode cL_law 334 = .ok (.iload_n 3, 1) := decs_at bne_law0_7 8 (x := (334, .iload_n 3, 1)) rfl
theorem dL_law_335 : decode cL_law 335 = .ok (.iconst 1, 1) := decs_at bne_law0_7 9 (x := (335, .iconst 1, 1)) rfl
theorem dL_law_336 : decode cL_law 336 = .ok (.iadd, 1) := decs_at bne_law0_7 10 (x := (336, .iadd, 1)) rfl
theorem dL_law_337 : decode cL_law 337 = .ok (.iaload, 1) := decs_at bne_law0_7 11 (x := (337, .iaload, 1)) rfl
theorem dL_law_338 : decode cL_law 338 = .ok (.aload_n 0, 1) := decs_at bne_law0_7 12 (x := (338, .aload_n 0, 1)) rfl
theorem dL_law_339 : decode cL_law 339 = .ok (.iload_n 3, 1) := decs_at bne_law0_7 13 (x := (339, .iload_n 3, 1)) rfl
theorem dL_law_340 : decode cL_law 340 = .ok (.iconst 2, 1) := decs_at bne_law0_7 14 (x := (340, .iconst 2, 1)) rfl
theorem dL_law_341 : decode cL_law 341 = .ok (.iadd, 1) := decs_at bne_law0_7 15 (x := (341, .iadd, 1)) rfl
theorem dL_law_342 : decode cL_law 342 = .ok (.iaload, 1) := decs_at bne_law0_7 16 (x := (342, .iaload, 1)) rfl
theorem dL_law_343 : decode cL_law 343 = .ok (.invokevirtual 40, 3) := decs_at bne_law0_7 17 (x := (343, .invokevirtual 40, 3)) rfl
theorem dL_law_346 : decode cL_law 346 = .ok (.pop2, 1) := decs_at bne_law0_7 18 (x := (346, .pop2, 1)) rfl
theorem dL_law_347 : decode cL_law 347 = .ok (.aload_n 2, 1) := decs_at bne_law0_7 19 (x := (347, .aload_n 2, 1)) rfl
theorem dL_law_348 : decode cL_law 348 = .ok (.aload_n 0, 1) := decs_at bne_law0_7 20 (x := (348, .aload_n 0, 1)) rfl
theorem dL_law_349 : decode cL_law 349 = .ok (.iload_n 3, 1) := decs_at bne_law0_7 21 (x := (349, .iload_n 3, 1)) rfl
theorem dL_law_350 : decode cL_law 350 = .ok (.iconst 1, 1) := decs_at bne_law0_7 22 (x := (350, .iconst 1, 1)) rfl
theorem dL_law_351 : decode cL_law 351 = .ok (.iadd, 1) := decs_at bne_law0_7 23 (x := (351, .iadd, 1)) rfl
theorem bne_law0_8 : decs cL_law [(352, .iaload, 1), (353, .aload_n 0, 1), (354, .iload_n 3, 1), (355, .iconst 2, 1), (356, .iadd, 1), (357, .iaload, 1), (358, .invokevirtual 44, 3), (361, .pop2, 1), (362, .goto 614, 3), (365, .aload_n 1, 1), (366, .aload_n 0, 1), (367, .iload_n 3, 1), (368, .iconst 1, 1), (369, .iadd, 1), (370, .iaload, 1), (371, .aload_n 0, 1), (372, .iload_n 3, 1), (373, .iconst 2, 1), (374, .iadd, 1), (375, .iaload, 1), (376, .aload_n 0, 1), (377, .iload_n 3, 1), (378, .iconst 3, 1), (379, .iadd, 1)] = true := by decide +kernel
theorem dL_law_352 : decode cL_law 352 = .ok (.iaload, 1) := decs_at bne_law0_8 0 (x := (352, .iaload, 1)) rfl
theorem dL_law_353 : decode cL_law 353 = .ok (.aload_n 0, 1) := decs_at bne_law0_8 1 (x := (353, .aload_n 0, 1)) rfl
theorem dL_law_354 : decode cL_law 354 = .ok (.iload_n 3, 1) := decs_at bne_law0_8 2 (x := (354, .iload_n 3, 1)) rfl
theorem dL_law_355 : decode cL_law 355 = .ok (.iconst 2, 1) := decs_at bne_law0_8 3 (x := (355, .iconst 2, 1)) rfl
theorem dL_law_356 : decode cL_law 356 = .ok (.iadd, 1) := decs_at bne_law0_8 4 (x := (356, .iadd, 1)) rfl
theorem dL_law_357 : decode cL_law 357 = .ok (.iaload, 1) := decs_at bne_law0_8 5 (x := (357, .iaload, 1)) rfl
theorem dL_law_358 : decode cL_law 358 = .ok (.invokevirtual 44, 3) := decs_at bne_law0_8 6 (x := (358, .invokevirtual 44, 3)) rfl
theorem dL_law_361 : decode cL_law 361 = .ok (.pop2, 1) := decs_at bne_law0_8 7 (x := (361, .pop2, 1)) rfl
theorem dL_law_362 : decode cL_law 362 = .ok (.goto 614, 3) := decs_at bne_law0_8 8 (x := (362, .goto 614, 3)) rfl
theorem dL_law_365 : decode cL_law 365 = .ok (.aload_n 1, 1) := decs_at bne_law0_8 9 (x := (365, .aload_n 1, 1)) rfl
theorem dL_law_366 : decode cL_law 366 = .ok (.aload_n 0, 1) := decs_at bne_law0_8 10 (x := (366, .aload_n 0, 1)) rfl
theorem dL_law_367 : decode cL_law 367 = .ok (.iload_n 3, 1) := decs_at bne_law0_8 11 (x := (367, .iload_n 3, 1)) rfl
theorem dL_law_368 : decode cL_law 368 = .ok (.iconst 1, 1) := decs_at bne_law0_8 12 (x := (368, .iconst 1, 1)) rfl
theorem dL_law_369 : decode cL_law 369 = .ok (.iadd, 1) := decs_at bne_law0_8 13 (x := (369, .iadd, 1)) rfl
theorem dL_law_370 : decode cL_law 370 = .ok (.iaload, 1) := decs_at bne_law0_8 14 (x := (370, .iaload, 1)) rfl
theorem dL_law_371 : decode cL_law 371 = .ok (.aload_n 0, 1) := decs_at bne_law0_8 15 (x := (371, .aload_n 0, 1)) rfl
theorem dL_law_372 : decode cL_law 372 = .ok (.iload_n 3, 1) := decs_at bne_law0_8 16 (x := (372, .iload_n 3, 1)) rfl
theorem dL_law_373 : decode cL_law 373 = .ok (.iconst 2, 1) := decs_at bne_law0_8 17 (x := (373, .iconst 2, 1)) rfl
theorem dL_law_374 : decode cL_law 374 = .ok (.iadd, 1) := decs_at bne_law0_8 18 (x := (374, .iadd, 1)) rfl
theorem dL_law_375 : decode cL_law 375 = .ok (.iaload, 1) := decs_at bne_law0_8 19 (x := (375, .iaload, 1)) rfl
theorem dL_law_376 : decode cL_law 376 = .ok (.aload_n 0, 1) := decs_at bne_law0_8 20 (x := (376, .aload_n 0, 1)) rfl
theorem dL_law_377 : decode cL_law 377 = .ok (.iload_n 3, 1) := decs_at bne_law0_8 21 (x := (377, .iload_n 3, 1)) rfl
theorem dL_law_378 : decode cL_law 378 = .ok (.iconst 3, 1) := decs_at bne_law0_8 22 (x := (378, .iconst 3, 1)) rfl
theorem dL_law_379 : decode cL_law 379 = .ok (.iadd, 1) := decs_at bne_law0_8 23 (x := (379, .iadd, 1)) rfl

theorem bne_law0_9 : decs cL_law [(380, .iaload, 1), (381, .i2l, 1), (382, .bipush 32, 2), (384, .lshl, 1), (385, .aload_n 0, 1), (386, .iload_n 3, 1), (387, .iconst 4, 1), (388, .iadd, 1), (389, .iaload, 1), (390, .i2l, 1), (391, .ldc2_w 45, 3), (394, .land, 1), (395, .lor, 1), (396, .invokevirtual 47, 3), (399, .pop, 1), (400, .aload_n 2, 1), (401, .aload_n 0, 1), (402, .iload_n 3, 1)] = true := by decide +kernel
theorem dL_law_380 : decode cL_law 380 = .ok (.iaload, 1) := decs_at bne_law0_9 0 (x := (380, .iaload, 1)) rfl
theorem dL_law_381 : decode cL_law 381 = .ok (.i2l, 1) := decs_at bne_law0_9 1 (x := (381, .i2l, 1)) rfl
theorem dL_law_382 : decode cL_law 382 = .ok (.bipush 32, 2) := decs_at bne_law0_9 2 (x := (382, .bipush 32, 2)) rfl
theorem dL_law_384 : decode cL_law 384 = .ok (.lshl, 1) := decs_at bne_law0_9 3 (x := (384, .lshl, 1)) rfl
theorem dL_law_385 : decode cL_law 385 = .ok (.aload_n 0, 1) := decs_at bne_law0_9 4 (x := (385, .aload_n 0, 1)) rfl
theorem dL_law_386 : decode cL_law 386 = .ok (.iload_n 3, 1) := decs_at bne_law0_9 5 (x := (386, .iload_n 3, 1)) rfl
theorem dL_law_387 : decode cL_law 387 = .ok (.iconst 4, 1) := decs_at bne_law0_9 6 (x := (387, .iconst 4, 1)) rfl
theorem dL_law_388 : decode cL_law 388 = .ok (.iadd, 1) := decs_at bne_law0_9 7 (x := (388, .iadd, 1)) rfl
theorem dL_law_389 : decode cL_law 389 = .ok (.iaload, 1) := decs_at bne_law0_9 8 (x := (389, .iaload, 1)) rfl
theorem dL_law_390 : decode cL_law 390 = .ok (.i2l, 1) := decs_at bne_law0_9 9 (x := (390, .i2l, 1)) rfl
theorem dL_law_391 : decode cL_law 391 = .ok (.ldc2_w 45, 3) := decs_at bne_law0_9 10 (x := (391, .ldc2_w 45, 3)) rfl
theorem dL_law_394 : decode cL_law 394 = .ok (.land, 1) := decs_at bne_law0_9 11 (x := (394, .land, 1)) rfl
theorem dL_law_395 : decode cL_law 395 = .ok (.lor, 1) := decs_at bne_law0_9 12 (x := (395, .lor, 1)) rfl
theorem dL_law_396 : decode cL_law 396 = .ok (.invokevirtual 47, 3) := decs_at bne_law0_9 13 (x := (396, .invokevirtual 47, 3)) rfl
theorem dL_law_399 : decode cL_law 399 = .ok (.pop, 1) := decs_at bne_law0_9 14 (x := (399, .pop, 1)) rfl
theorem dL_law_400 : decode cL_law 400 = .ok (.aload_n 2, 1) := decs_at bne_law0_9 15 (x := (400, .aload_n 2, 1)) rfl
theorem dL_law_401 : decode cL_law 401 = .ok (.aload_n 0, 1) := decs_at bne_law0_9 16 (x := (401, .aload_n 0, 1)) rfl
theorem dL_law_402 : decode cL_law 402 = .ok (.iload_n 3, 1) := decs_at bne_law0_9 17 (x := (402, .iload_n 3, 1)) rfl