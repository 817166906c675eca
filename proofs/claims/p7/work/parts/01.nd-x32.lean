theorem dX3_tellObject_0 : decode cX3_tellObject 0 = .ok (.aload_n 0, 1) := by decide +kernel
theorem dX3_tellObject_1 : decode cX3_tellObject 1 = .ok (.iload_n 1, 1) := by decide +kernel
theorem dX3_tellObject_2 : decode cX3_tellObject 2 = .ok (.iconst (-1), 1) := by decide +kernel
theorem dX3_tellObject_3 : decode cX3_tellObject 3 = .ok (.aload_n 0, 1) := by decide +kernel
theorem dX3_tellObject_4 : decode cX3_tellObject 4 = .ok (.getfield 13, 3) := by decide +kernel
theorem dX3_tellObject_7 : decode cX3_tellObject 7 = .ok (.iload_n 2, 1) := by decide +kernel
theorem dX3_tellObject_8 : decode cX3_tellObject 8 = .ok (.iaload, 1) := by decide +kernel
theorem dX3_tellObject_9 : decode cX3_tellObject 9 = .ok (.i2l, 1) := by decide +kernel
theorem dX3_tellObject_10 : decode cX3_tellObject 10 = .ok (.invokevirtual 177, 3) := by decide +kernel
theorem dX3_tellObject_13 : decode cX3_tellObject 13 = .ok (.iconst 0, 1) := by decide +kernel
theorem dX3_tellObject_14 : decode cX3_tellObject 14 = .ok (.istore_n 3, 1) := by decide +kernel
theorem dX3_tellObject_15 : decode cX3_tellObject 15 = .ok (.iload_n 3, 1) := by decide +kernel
theorem dX3_tellObject_16 : decode cX3_tellObject 16 = .ok (.bipush 17, 2) := by decide +kernel
theorem dX3_tellObject_18 : decode cX3_tellObject 18 = .ok (.if_icmp .ge 162, 3) := by decide +kernel
theorem dX3_tellObject_21 : decode cX3_tellObject 21 = .ok (.aload_n 0, 1) := by decide +kernel
theorem dX3_tellObject_22 : decode cX3_tellObject 22 = .ok (.getfield 13, 3) := by decide +kernel
theorem dX3_tellObject_25 : decode cX3_tellObject 25 = .ok (.iload_n 2, 1) := by decide +kernel
theorem dX3_tellObject_26 : decode cX3_tellObject 26 = .ok (.iaload, 1) := by decide +kernel
theorem dX3_tellObject_27 : decode cX3_tellObject 27 = .ok (.iload_n 3, 1) := by decide +kernel
theorem dX3_tellObject_28 : decode cX3_tellObject 28 = .ok (.invokestatic 78, 3) := by decide +kernel
theorem dX3_tellObject_31 : decode cX3_tellObject 31 = .ok (.ifCond .ne 6, 3) := by decide +kernel
theorem dX3_tellObject_34 : decode cX3_tellObject 34 = .ok (.goto 140, 3) := by decide +kernel
theorem dX3_tellObject_37 : decode cX3_tellObject 37 = .ok (.aload_n 0, 1) := by decide +kernel
theorem dX3_tellObject_38 : decode cX3_tellObject 38 = .ok (.getfield 17, 3) := by decide +kernel
theorem dX3_tellObject_41 : decode cX3_tellObject 41 = .ok (.bipush 17, 2) := by decide +kernel
theorem dX3_tellObject_43 : decode cX3_tellObject 43 = .ok (.iload_n 2, 1) := by decide +kernel
theorem dX3_tellObject_44 : decode cX3_tellObject 44 = .ok (.imul, 1) := by decide +kernel
theorem dX3_tellObject_45 : decode cX3_tellObject 45 = .ok (.iload_n 3, 1) := by decide +kernel
theorem dX3_tellObject_46 : decode cX3_tellObject 46 = .ok (.iadd, 1) := by decide +kernel
theorem dX3_tellObject_47 : decode cX3_tellObject 47 = .ok (.laload, 1) := by decide +kernel
theorem dX3_tellObject_48 : decode cX3_tellObject 48 = .ok (.lstore 4, 2) := by decide +kernel
theorem dX3_tellObject_50 : decode cX3_tellObject 50 = .ok (.iload_n 3, 1) := by decide +kernel
theorem dX3_tellObject_51 : decode cX3_tellObject 51 = .ok (.bipush 9, 2) := by decide +kernel
theorem dX3_tellObject_53 : decode cX3_tellObject 53 = .ok (.if_icmp .ne 73, 3) := by decide +kernel
theorem dX3_tellObject_56 : decode cX3_tellObject 56 = .ok (.aload_n 0, 1) := by decide +kernel
theorem dX3_tellObject_57 : decode cX3_tellObject 57 = .ok (.getfield 21, 3) := by decide +kernel
theorem dX3_tellObject_60 : decode cX3_tellObject 60 = .ok (.iload_n 2, 1) := by decide +kernel
theorem dX3_tellObject_61 : decode cX3_tellObject 61 = .ok (.iaload, 1) := by decide +kernel
theorem dX3_tellObject_62 : decode cX3_tellObject 62 = .ok (.iconst (-1), 1) := by decide +kernel
theorem dX3_tellObject_63 : decode cX3_tellObject 63 = .ok (.if_icmp .eq 111, 3) := by decide +kernel
theorem dX3_tellObject_66 : decode cX3_tellObject 66 = .ok (.aload_n 0, 1) := by decide +kernel
theorem dX3_tellObject_67 : decode cX3_tellObject 67 = .ok (.iload_n 1, 1) := by decide +kernel
theorem dX3_tellObject_68 : decode cX3_tellObject 68 = .ok (.bipush 9, 2) := by decide +kernel
theorem dX3_tellObject_70 : decode cX3_tellObject 70 = .ok (.aload_n 0, 1) := by decide +kernel
theorem dX3_tellObject_71 : decode cX3_tellObject 71 = .ok (.getfield 21, 3) := by decide +kernel
theorem dX3_tellObject_74 : decode cX3_tellObject 74 = .ok (.iload_n 2, 1) := by decide +kernel
theorem dX3_tellObject_75 : decode cX3_tellObject 75 = .ok (.iaload, 1) := by decide +kernel
theorem dX3_tellObject_76 : decode cX3_tellObject 76 = .ok (.i2l, 1) := by decide +kernel
theorem dX3_tellObject_77 : decode cX3_tellObject 77 = .ok (.invokevirtual 177, 3) := by decide +kernel
theorem dX3_tellObject_80 : decode cX3_tellObject 80 = .ok (.iconst 0, 1) := by decide +kernel
theorem dX3_tellObject_81 : decode cX3_tellObject 81 = .ok (.istore 6, 2) := by decide +kernel
theorem dX3_tellObject_83 : decode cX3_tellObject 83 = .ok (.iload 6, 2) := by decide +kernel
theorem dX3_tellObject_85 : decode cX3_tellObject 85 = .ok (.aload_n 0, 1) := by decide +kernel
theorem dX3_tellObject_86 : decode cX3_tellObject 86 = .ok (.getfield 21, 3) := by decide +kernel
theorem dX3_tellObject_89 : decode cX3_tellObject 89 = .ok (.iload_n 2, 1) := by decide +kernel
theorem dX3_tellObject_90 : decode cX3_tellObject 90 = .ok (.iaload, 1) := by decide +kernel
theorem dX3_tellObject_91 : decode cX3_tellObject 91 = .ok (.if_icmp .ge 32, 3) := by decide +kernel
theorem dX3_tellObject_94 : decode cX3_tellObject 94 = .ok (.aload_n 0, 1) := by decide +kernel
theorem dX3_tellObject_95 : decode cX3_tellObject 95 = .ok (.iload_n 1, 1) := by decide +kernel
theorem dX3_tellObject_96 : decode cX3_tellObject 96 = .ok (.bipush 100, 2) := by decide +kernel
theorem dX3_tellObject_98 : decode cX3_tellObject 98 = .ok (.iload 6, 2) := by decide +kernel
theorem dX3_tellObject_100 : decode cX3_tellObject 100 = .ok (.iadd, 1) := by decide +kernel
theorem dX3_tellObject_101 : decode cX3_tellObject 101 = .ok (.aload_n 0, 1) := by decide +kernel
theorem dX3_tellObject_102 : decode cX3_tellObject 102 = .ok (.getfield 25, 3) := by decide +kernel
theorem dX3_tellObject_105 : decode cX3_tellObject 105 = .ok (.bipush 20, 2) := by decide +kernel
theorem dX3_tellObject_107 : decode cX3_tellObject 107 = .ok (.iload_n 2, 1) := by decide +kernel
theorem dX3_tellObject_108 : decode cX3_tellObject 108 = .ok (.imul, 1) := by decide +kernel
theorem dX3_tellObject_109 : decode cX3_tellObject 109 = .ok (.iload 6, 2) := by decide +kernel
theorem dX3_tellObject_111 : decode cX3_tellObject 111 = .ok (.iadd, 1) := by decide +kernel
theorem dX3_tellObject_112 : decode cX3_tellObject 112 = .ok (.iaload, 1) := by decide +kernel
theorem dX3_tellObject_113 : decode cX3_tellObject 113 = .ok (.i2l, 1) := by decide +kernel
theorem dX3_tellObject_114 : decode cX3_tellObject 114 = .ok (.invokevirtual 177, 3) := by decide +kernel
theorem dX3_tellObject_117 : decode cX3_tellObject 117 = .ok (.iinc 6 1, 3) := by decide +kernel
theorem dX3_tellObject_120 : decode cX3_tellObject 120 = .ok (.goto (-37), 3) := by decide +kernel
theorem dX3_tellObject_123 : decode cX3_tellObject 123 = .ok (.goto 51, 3) := by decide +kernel
theorem dX3_tellObject_126 : decode cX3_tellObject 126 = .ok (.iload_n 3, 1) := by decide +kernel
theorem dX3_tellObject_127 : decode cX3_tellObject 127 = .ok (.invokestatic 74, 3) := by decide +kernel
theorem dX3_tellObject_130 : decode cX3_tellObject 130 = .ok (.ifCond .eq 29, 3) := by decide +kernel
theorem dX3_tellObject_133 : decode cX3_tellObject 133 = .ok (.lload 4, 2) := by decide +kernel
theorem dX3_tellObject_135 : decode cX3_tellObject 135 = .ok (.ldc2_w 82, 3) := by decide +kernel
theorem dX3_tellObject_138 : decode cX3_tellObject 138 = .ok (.lcmp, 1) := by decide +kernel
theorem dX3_tellObject_139 : decode cX3_tellObject 139 = .ok (.ifCond .eq 35, 3) := by decide +kernel
theorem dX3_tellObject_142 : decode cX3_tellObject 142 = .ok (.aload_n 0, 1) := by decide +kernel
theorem dX3_tellObject_143 : decode cX3_tellObject 143 = .ok (.iload_n 1, 1) := by decide +kernel
theorem dX3_tellObject_144 : decode cX3_tellObject 144 = .ok (.iload_n 3, 1) := by decide +kernel
theorem dX3_tellObject_145 : decode cX3_tellObject 145 = .ok (.aload_n 0, 1) := by decide +kernel
theorem dX3_tellObject_146 : decode cX3_tellObject 146 = .ok (.lload 4, 2) := by decide +kernel
theorem dX3_tellObject_148 : decode cX3_tellObject 148 = .ok (.l2i, 1) := by decide +kernel
theorem dX3_tellObject_149 : decode cX3_tellObject 149 = .ok (.invokevirtual 170, 3) := by decide +kernel
theorem dX3_tellObject_152 : decode cX3_tellObject 152 = .ok (.i2l, 1) := by decide +kernel
theorem dX3_tellObject_153 : decode cX3_tellObject 153 = .ok (.invokevirtual 177, 3) := by decide +kernel
theorem dX3_tellObject_156 : decode cX3_tellObject 156 = .ok (.goto 18, 3) := by decide +kernel
theorem dX3_tellObject_159 : decode cX3_tellObject 159 = .ok (.lload 4, 2) := by decide +kernel
theorem dX3_tellObject_161 : decode cX3_tellObject 161 = .ok (.lconst 0, 1) := by decide +kernel
theorem dX3_tellObject_162 : decode cX3_tellObject 162 = .ok (.lcmp, 1) := by decide +kernel
theorem dX3_tellObject_163 : decode cX3_tellObject 163 = .ok (.ifCond .eq 11, 3) := by decide +kernel
theorem dX3_tellObject_166 : decode cX3_tellObject 166 = .ok (.aload_n 0, 1) := by decide +kernel
theorem dX3_tellObject_167 : decode cX3_tellObject 167 = .ok (.iload_n 1, 1) := by decide +kernel
theorem dX3_tellObject_168 : decode cX3_tellObject 168 = .ok (.iload_n 3, 1) := by decide +kernel
theorem dX3_tellObject_169 : decode cX3_tellObject 169 = .ok (.lload 4, 2) := by decide +kernel
theorem dX3_tellObject_171 : decode cX3_tellObject 171 = .ok (.invokevirtual 177, 3) := by decide +kernel
theorem dX3_tellObject_174 : decode cX3_tellObject 174 = .ok (.iinc 3 1, 3) := by decide +kernel
theorem dX3_tellObject_177 : decode cX3_tellObject 177 = .ok (.goto (-162), 3) := by decide +kernel
theorem dX3_tellObject_180 : decode cX3_tellObject 180 = .ok (.return_, 1) := by decide +kernel
set_option maxRecDepth 20000 in
theorem ggX3_leaves_X3_isSlot : GoodIn wsX3_leaves wsX3_isSlot := goodIn_r _ [13, 14, 15, 16, 12, 17] rfl (by decide +kernel)
set_option maxRecDepth 20000 in
theorem gX3_leaves_X3_isSlot : GoodIn wsX3_leaves (va_wsS RX3 84 yX3_isSlot wsX3_isSlot) := goodIn_app (goodIn_r _ [10, 11, 12] rfl (by decide +kernel)) ggX3_leaves_X3_isSlot
set_option maxRecDepth 20000 in
theorem ggX3_leaves_X3_find : GoodIn wsX3_leaves wsX3_find := goodIn_r _ [21, 22, 23, 2, 24, 25, 26, 27, 28, 12, 29, 30, 31, 32, 33, 34, 35, 36, 37, 38, 39, 40, 41, 42, 43, 44, 45, 46, 47, 5, 7, 9, 48, 49, 50, 51, 52, 53, 54, 55, 56, 57, 58, 59, 60, 61, 62, 63, 64, 65, 66, 67, 68, 69, 70] rfl (by decide +kernel)
set_option maxRecDepth 20000 in
theorem gX3_leaves_X3_find : GoodIn wsX3_leaves (wsV RX3 181 RX3 yX3_find wsX3_find) := goodIn_app (goodIn_r _ [18, 19, 20, 12] rfl (by decide +kernel)) ggX3_leaves_X3_find
theorem dX3_leaves_0 : decode cX3_leaves 0 = .ok (.iload_n 1, 1) := by decide +kernel
theorem dX3_leaves_1 : decode cX3_leaves 1 = .ok (.invokestatic 84, 3) := by decide +kernel
theorem dX3_leaves_4 : decode cX3_leaves 4 = .ok (.ifCond .ne 5, 3) := by decide +kernel
theorem dX3_leaves_7 : decode cX3_leaves 7 = .ok (.iconst (-1), 1) := by decide +kernel
theorem dX3_leaves_8 : decode cX3_leaves 8 = .ok (.ireturn, 1) := by decide +kernel
theorem dX3_leaves_9 : decode cX3_leaves 9 = .ok (.aload_n 0, 1) := by decide +kernel
theorem dX3_leaves_10 : decode cX3_leaves 10 = .ok (.getfield 7, 3) := by decide +kernel
theorem dX3_leaves_13 : decode cX3_leaves 13 = .ok (.iload_n 1, 1) := by decide +kernel
theorem dX3_leaves_14 : decode cX3_leaves 14 = .ok (.iaload, 1) := by decide +kernel
theorem dX3_leaves_15 : decode cX3_leaves 15 = .ok (.iconst (-1), 1) := by decide +kernel
theorem dX3_leaves_16 : decode cX3_leaves 16 = .ok (.if_icmp .ne 6, 3) := by decide +kernel
theorem dX3_leaves_19 : decode cX3_leaves 19 = .ok (.bipush (-11), 2) := by decide +kernel
theorem dX3_leaves_21 : decode cX3_leaves 21 = .ok (.ireturn, 1) := by decide +kernel
theorem dX3_leaves_22 : decode cX3_leaves 22 = .ok (.aload_n 0, 1) := by decide +kernel
theorem dX3_leaves_23 : decode cX3_leaves 23 = .ok (.aload_n 0, 1) := by decide +kernel
theorem dX3_leaves_24 : decode cX3_leaves 24 = .ok (.getfield 7, 3) := by decide +kernel
theorem dX3_leaves_27 : decode cX3_leaves 27 = .ok (.iload_n 1, 1) := by decide +kernel
theorem dX3_leaves_28 : decode cX3_leaves 28 = .ok (.iaload, 1) := by decide +kernel
theorem dX3_leaves_29 : decode cX3_leaves 29 = .ok (.invokevirtual 181, 3) := by decide +kernel
theorem dX3_leaves_32 : decode cX3_leaves 32 = .ok (.ifCond .ne 6, 3) := by decide +kernel
theorem dX3_leaves_35 : decode cX3_leaves 35 = .ok (.bipush (-3), 2) := by decide +kernel
theorem dX3_leaves_37 : decode cX3_leaves 37 = .ok (.ireturn, 1) := by decide +kernel
theorem dX3_leaves_38 : decode cX3_leaves 38 = .ok (.aload_n 0, 1) := by decide +kernel
theorem dX3_leaves_39 : decode cX3_leaves 39 = .ok (.aload_n 0, 1) := by decide +kernel
theorem dX3_leaves_40 : decode cX3_leaves 40 = .ok (.getfield 160, 3) := by decide +kernel
theorem dX3_leaves_43 : decode cX3_leaves 43 = .ok (.putfield 184, 3) := by decide +kernel
theorem dX3_leaves_46 : decode cX3_leaves 46 = .ok (.iconst 0, 1) := by decide +kernel
theorem dX3_leaves_47 : decode cX3_leaves 47 = .ok (.istore_n 2, 1) := by decide +kernel
theorem dX3_leaves_48 : decode cX3_leaves 48 = .ok (.iload_n 2, 1) := by decide +kernel
theorem dX3_leaves_49 : decode cX3_leaves 49 = .ok (.aload_n 0, 1) := by decide +kernel
theorem dX3_leaves_50 : decode cX3_leaves 50 = .ok (.getfield 160, 3) := by decide +kernel
theorem dX3_leaves_53 : decode cX3_leaves 53 = .ok (.if_icmp .ge 45, 3) := by decide +kernel
theorem dX3_leaves_56 : decode cX3_leaves 56 = .ok (.aload_n 0, 1) := by decide +kernel
theorem dX3_leaves_57 : decode cX3_leaves 57 = .ok (.getfield 35, 3) := by decide +kernel
theorem dX3_leaves_60 : decode cX3_leaves 60 = .ok (.iload_n 2, 1) := by decide +kernel
theorem dX3_leaves_61 : decode cX3_leaves 61 = .ok (.aload_n 0, 1) := by decide +kernel
theorem dX3_leaves_62 : decode cX3_leaves 62 = .ok (.getfield 47, 3) := by decide +kernel
theorem dX3_leaves_65 : decode cX3_leaves 65 = .ok (.iload_n 2, 1) := by decide +kernel
theorem dX3_leaves_66 : decode cX3_leaves 66 = .ok (.iaload, 1) := by decide +kernel
theorem dX3_leaves_67 : decode cX3_leaves 67 = .ok (.iastore, 1) := by decide +kernel
theorem dX3_leaves_68 : decode cX3_leaves 68 = .ok (.aload_n 0, 1) := by decide +kernel
theorem dX3_leaves_69 : decode cX3_leaves 69 = .ok (.getfield 38, 3) := by decide +kernel
theorem dX3_leaves_72 : decode cX3_leaves 72 = .ok (.iload_n 2, 1) := by decide +kernel
theorem dX3_leaves_73 : decode cX3_leaves 73 = .ok (.aload_n 0, 1) := by decide +kernel
theorem dX3_leaves_74 : decode cX3_leaves 74 = .ok (.getfield 50, 3) := by decide +kernel
theorem dX3_leaves_77 : decode cX3_leaves 77 = .ok (.iload_n 2, 1) := by decide +kernel
theorem dX3_leaves_78 : decode cX3_leaves 78 = .ok (.iaload, 1) := by decide +kernel
theorem dX3_leaves_79 : decode cX3_leaves 79 = .ok (.iastore, 1) := by decide +kernel
theorem dX3_leaves_80 : decode cX3_leaves 80 = .ok (.aload_n 0, 1) := by decide +kernel
theorem dX3_leaves_81 : decode cX3_leaves 81 = .ok (.getfield 41, 3) := by decide +kernel
theorem dX3_leaves_84 : decode cX3_leaves 84 = .ok (.iload_n 2, 1) := by decide +kernel
theorem dX3_leaves_85 : decode cX3_leaves 85 = .ok (.aload_n 0, 1) := by decide +kernel
theorem dX3_leaves_86 : decode cX3_leaves 86 = .ok (.getfield 53, 3) := by decide +kernel
theorem dX3_leaves_89 : decode cX3_leaves 89 = .ok (.iload_n 2, 1) := by decide +kernel
theorem dX3_leaves_90 : decode cX3_leaves 90 = .ok (.laload, 1) := by decide +kernel
theorem dX3_leaves_91 : decode cX3_leaves 91 = .ok (.lastore, 1) := by decide +kernel
theorem dX3_leaves_92 : decode cX3_leaves 92 = .ok (.iinc 2 1, 3) := by decide +kernel
theorem dX3_leaves_95 : decode cX3_leaves 95 = .ok (.goto (-47), 3) := by decide +kernel
theorem dX3_leaves_98 : decode cX3_leaves 98 = .ok (.aload_n 0, 1) := by decide +kernel
theorem dX3_leaves_99 : decode cX3_leaves 99 = .ok (.getfield 184, 3) := by decide +kernel
theorem dX3_leaves_102 : decode cX3_leaves 102 = .ok (.ireturn, 1) := by decide +kernel
set_option maxRecDepth 20000 in
theorem ggX3_leaf_X3_in : GoodIn wsX3_leaf wsX3_in := goodIn_r _ [10] rfl (by decide +kernel)
set_option maxRecDepth 20000 in
theorem gX3_leaf_X3_in : GoodIn wsX3_leaf (va_wsS RX3 70 yX3_in wsX3_in) := goodIn_app (goodIn_r _ [7, 8, 9] rfl (by decide +kernel)) ggX3_leaf_X3_in
theorem dX3_leaf_0 : decode cX3_leaf 0 = .ok (.iload_n 1, 1) := by decide +kernel
theorem dX3_leaf_1 : decode cX3_leaf 1 = .ok (.i2l, 1) := by decide +kernel
theorem dX3_leaf_2 : decode cX3_leaf 2 = .ok (.lconst 0, 1) := by decide +kernel
theorem dX3_leaf_3 : decode cX3_leaf 3 = .ok (.aload_n 0, 1) := by decide +kernel
theorem dX3_leaf_4 : decode cX3_leaf 4 = .ok (.getfield 184, 3) := by decide +kernel
theorem dX3_leaf_7 : decode cX3_leaf 7 = .ok (.iconst 1, 1) := by decide +kernel
theorem dX3_leaf_8 : decode cX3_leaf 8 = .ok (.isub, 1) := by decide +kernel
theorem dX3_leaf_9 : decode cX3_leaf 9 = .ok (.i2l, 1) := by decide +kernel
theorem dX3_leaf_10 : decode cX3_leaf 10 = .ok (.invokestatic 70, 3) := by decide +kernel
theorem dX3_leaf_13 : decode cX3_leaf 13 = .ok (.ifCond .eq 15, 3) := by decide +kernel
theorem dX3_leaf_16 : decode cX3_leaf 16 = .ok (.iload_n 2, 1) := by decide +kernel
theorem dX3_leaf_17 : decode cX3_leaf 17 = .ok (.i2l, 1) := by decide +kernel
theorem dX3_leaf_18 : decode cX3_leaf 18 = .ok (.lconst 0, 1) := by decide +kernel
theorem dX3_leaf_19 : decode cX3_leaf 19 = .ok (.ldc2_w 142, 3) := by decide +kernel
theorem dX3_leaf_22 : decode cX3_leaf 22 = .ok (.invokestatic 70, 3) := by decide +kernel
theorem dX3_leaf_25 : decode cX3_leaf 25 = .ok (.ifCond .ne 7, 3) := by decide +kernel
theorem dX3_leaf_28 : decode cX3_leaf 28 = .ok (.ldc2_w 82, 3) := by decide +kernel
theorem dX3_leaf_31 : decode cX3_leaf 31 = .ok (.lreturn, 1) := by decide +kernel
theorem dX3_leaf_32 : decode cX3_leaf 32 = .ok (.iload_n 2, 1) := by decide +kernel
theorem dX3_leaf_33 : decode cX3_leaf 33 = .ok (.ifCond .ne 13, 3) := by decide +kernel
theorem dX3_leaf_36 : decode cX3_leaf 36 = .ok (.aload_n 0, 1) := by decide +kernel
theorem dX3_leaf_37 : decode cX3_leaf 37 = .ok (.getfield 35, 3) := by decide +kernel
theorem dX3_leaf_40 : decode cX3_leaf 40 = .ok (.iload_n 1, 1) := by decide +kernel
theorem dX3_leaf_41 : decode cX3_leaf 41 = .ok (.iaload, 1) := by decide +kernel
theorem dX3_leaf_42 : decode cX3_leaf 42 = .ok (.i2l, 1) := by decide +kernel
theorem dX3_leaf_43 : decode cX3_leaf 43 = .ok (.goto 24, 3) := by decide +kernel
theorem dX3_leaf_46 : decode cX3_leaf 46 = .ok (.iload_n 2, 1) := by decide +kernel
theorem dX3_leaf_47 : decode cX3_leaf 47 = .ok (.iconst 1, 1) := by decide +kernel
theorem dX3_leaf_48 : decode cX3_leaf 48 = .ok (.if_icmp .ne 13, 3) := by decide +kernel
theorem dX3_leaf_51 : decode cX3_leaf 51 = .ok (.aload_n 0, 1) := by decide +kernel
theorem dX3_leaf_52 : decode cX3_leaf 52 = .ok (.getfield 38, 3) := by decide +kernel
theorem dX3_leaf_55 : decode cX3_leaf 55 = .ok (.iload_n 1, 1) := by decide +kernel
theorem dX3_leaf_56 : decode cX3_leaf 56 = .ok (.iaload, 1) := by decide +kernel
theorem dX3_leaf_57 : decode cX3_leaf 57 = .ok (.i2l, 1) := by decide +kernel
theorem dX3_leaf_58 : decode cX3_leaf 58 = .ok (.goto 9, 3) := by decide +kernel
theorem dX3_leaf_61 : decode cX3_leaf 61 = .ok (.aload_n 0, 1) := by decide +kernel
theorem dX3_leaf_62 : decode cX3_leaf 62 = .ok (.getfield 41, 3) := by decide +kernel
theorem dX3_leaf_65 : decode cX3_leaf 65 = .ok (.iload_n 1, 1) := by decide +kernel
theorem dX3_leaf_66 : decode cX3_leaf 66 = .ok (.laload, 1) := by decide +kernel
theorem dX3_leaf_67 : decode cX3_leaf 67 = .ok (.lreturn, 1) := by decide +kernel
set_option maxRecDepth 20000 in
theorem ggX3_alter_X3_in : GoodIn wsX3_alter wsX3_in := goodIn_r _ [7] rfl (by decide +kernel)
set_option maxRecDepth 20000 in
theorem gX3_alter_X3_in : GoodIn wsX3_alter (va_wsS RX3 70 yX3_in wsX3_in) := goodIn_app (goodIn_r _ [4, 5, 6] rfl (by decide +kernel)) ggX3_alter_X3_in
theorem dX3_alter_0 : decode cX3_alter 0 = .ok (.iload_n 1, 1) := by decide +kernel
theorem dX3_alter_1 : decode cX3_alter 1 = .ok (.i2l, 1) := by decide +kernel
theorem dX3_alter_2 : decode cX3_alter 2 = .ok (.lconst 0, 1) := by decide +kernel
theorem dX3_alter_3 : decode cX3_alter 3 = .ok (.aload_n 0, 1) := by decide +kernel
theorem dX3_alter_4 : decode cX3_alter 4 = .ok (.getfield 184, 3) := by decide +kernel
theorem dX3_alter_7 : decode cX3_alter 7 = .ok (.iconst 1, 1) := by decide +kernel
theorem dX3_alter_8 : decode cX3_alter 8 = .ok (.isub, 1) := by decide +kernel
theorem dX3_alter_9 : decode cX3_alter 9 = .ok (.i2l, 1) := by decide +kernel
theorem dX3_alter_10 : decode cX3_alter 10 = .ok (.invokestatic 70, 3) := by decide +kernel
theorem dX3_alter_13 : decode cX3_alter 13 = .ok (.ifCond .eq 24, 3) := by decide +kernel
theorem dX3_alter_16 : decode cX3_alter 16 = .ok (.aload_n 0, 1) := by decide +kernel
theorem dX3_alter_17 : decode cX3_alter 17 = .ok (.getfield 38, 3) := by decide +kernel
theorem dX3_alter_20 : decode cX3_alter 20 = .ok (.iload_n 1, 1) := by decide +kernel
theorem dX3_alter_21 : decode cX3_alter 21 = .ok (.iaload, 1) := by decide +kernel
theorem dX3_alter_22 : decode cX3_alter 22 = .ok (.iconst (-1), 1) := by decide +kernel
theorem dX3_alter_23 : decode cX3_alter 23 = .ok (.if_icmp .eq 14, 3) := by decide +kernel
theorem dX3_alter_26 : decode cX3_alter 26 = .ok (.aload_n 0, 1) := by decide +kernel
theorem dX3_alter_27 : decode cX3_alter 27 = .ok (.getfield 38, 3) := by decide +kernel
theorem dX3_alter_30 : decode cX3_alter 30 = .ok (.iload_n 1, 1) := by decide +kernel
theorem dX3_alter_31 : decode cX3_alter 31 = .ok (.iaload, 1) := by decide +kernel
theorem dX3_alter_32 : decode cX3_alter 32 = .ok (.bipush 9, 2) := by decide +kernel
theorem dX3_alter_34 : decode cX3_alter 34 = .ok (.if_icmp .ne 5, 3) := by decide +kernel
theorem dX3_alter_37 : decode cX3_alter 37 = .ok (.iconst (-1), 1) := by decide +kernel
theorem dX3_alter_38 : decode cX3_alter 38 = .ok (.ireturn, 1) := by decide +kernel
theorem dX3_alter_39 : decode cX3_alter 39 = .ok (.aload_n 0, 1) := by decide +kernel
theorem dX3_alter_40 : decode cX3_alter 40 = .ok (.getfield 41, 3) := by decide +kernel
theorem dX3_alter_43 : decode cX3_alter 43 = .ok (.iload_n 1, 1) := by decide +kernel
theorem dX3_alter_44 : decode cX3_alter 44 = .ok (.lload_n 2, 1) := by decide +kernel
theorem dX3_alter_45 : decode cX3_alter 45 = .ok (.lastore, 1) := by decide +kernel
theorem dX3_alter_46 : decode cX3_alter 46 = .ok (.iconst 1, 1) := by decide +kernel
theorem dX3_alter_47 : decode cX3_alter 47 = .ok (.ireturn, 1) := by decide +kernel
theorem dX3_told_0 : decode cX3_told 0 = .ok (.iconst 0, 1) := by decide +kernel
theorem dX3_told_1 : decode cX3_told 1 = .ok (.istore_n 3, 1) := by decide +kernel
theorem dX3_told_2 : decode cX3_told 2 = .ok (.iload_n 3, 1) := by decide +kernel
theorem dX3_told_3 : decode cX3_told 3 = .ok (.aload_n 0, 1) := by decide +kernel
theorem dX3_told_4 : decode cX3_told 4 = .ok (.getfield 184, 3) := by decide +kernel
theorem dX3_told_7 : decode cX3_told 7 = .ok (.if_icmp .ge 36, 3) := by decide +kernel
theorem dX3_told_10 : decode cX3_told 10 = .ok (.aload_n 0, 1) := by decide +kernel
theorem dX3_told_11 : decode cX3_told 11 = .ok (.getfield 35, 3) := by decide +kernel
theorem dX3_told_14 : decode cX3_told 14 = .ok (.iload_n 3, 1) := by decide +kernel
theorem dX3_told_15 : decode cX3_told 15 = .ok (.iaload, 1) := by decide +kernel
theorem dX3_told_16 : decode cX3_told 16 = .ok (.iload_n 1, 1) := by decide +kernel
theorem dX3_told_17 : decode cX3_told 17 = .ok (.if_icmp .ne 20, 3) := by decide +kernel
theorem dX3_told_20 : decode cX3_told 20 = .ok (.aload_n 0, 1) := by decide +kernel
theorem dX3_told_21 : decode cX3_told 21 = .ok (.getfield 38, 3) := by decide +kernel
theorem dX3_told_24 : decode cX3_told 24 = .ok (.iload_n 3, 1) := by decide +kernel
theorem dX3_told_25 : decode cX3_told 25 = .ok (.iaload, 1) := by decide +kernel
theorem dX3_told_26 : decode cX3_told 26 = .ok (.iload_n 2, 1) := by decide +kernel
theorem dX3_told_27 : decode cX3_told 27 = .ok (.if_icmp .ne 10, 3) := by decide +kernel
theorem dX3_told_30 : decode cX3_told 30 = .ok (.aload_n 0, 1) := by decide +kernel
theorem dX3_told_31 : decode cX3_told 31 = .ok (.getfield 41, 3) := by decide +kernel
theorem dX3_told_34 : decode cX3_told 34 = .ok (.iload_n 3, 1) := by decide +kernel
theorem dX3_told_35 : decode cX3_told 35 = .ok (.laload, 1) := by decide +kernel
theorem dX3_told_36 : decode cX3_told 36 = .ok (.lreturn, 1) := by decide +kernel
theorem dX3_told_37 : decode cX3_told 37 = .ok (.iinc 3 1, 3) := by decide +kernel
theorem dX3_told_40 : decode cX3_told 40 = .ok (.goto (-38), 3) := by decide +kernel
theorem dX3_told_43 : decode cX3_told 43 = .ok (.lconst 0, 1) := by decide +kernel
theorem dX3_told_44 : decode cX3_told 44 = .ok (.lreturn, 1) := by decide +kernel
set_option maxRecDepth 20000 in
theorem ggX3_back_X3_isSlot : GoodIn wsX3_back wsX3_isSlot := goodIn_r _ [16, 17, 18, 19, 15, 20] rfl (by decide +kernel)
set_option maxRecDepth 20000 in
theorem gX3_back_X3_isSlot : GoodIn wsX3_back (va_wsS RX3 84 yX3_isSlot wsX3_isSlot) := goodIn_app (goodIn_r _ [13, 14, 15] rfl (by decide +kernel)) ggX3_back_X3_isSlot
set_option maxRecDepth 20000 in
theorem ggX3_back_X3_told : GoodIn wsX3_back wsX3_told := goodIn_r _ [24, 1, 2, 6, 7, 55, 56, 57, 58, 59, 60, 61, 62, 63, 64, 65, 66, 67, 68, 69, 70, 71, 72, 73, 74, 75, 76, 77] rfl (by decide +kernel)
set_option maxRecDepth 20000 in
theorem gX3_back_X3_told : GoodIn wsX3_back (wsV RX3 187 RX3 yX3_told wsX3_told) := goodIn_app (goodIn_r _ [21, 22, 23, 15] rfl (by decide +kernel)) ggX3_back_X3_told
set_option maxRecDepth 20000 in
theorem ggX3_back_X3_in : GoodIn wsX3_back wsX3_in := goodIn_r _ [20] rfl (by decide +kernel)
set_option maxRecDepth 20000 in
theorem gX3_back_X3_in : GoodIn wsX3_back (va_wsS RX3 70 yX3_in wsX3_in) := goodIn_app (goodIn_r _ [18, 19, 15] rfl (by decide +kernel)) ggX3_back_X3_in
set_option maxRecDepth 20000 in
theorem ggX3_back_X3_lookWhatIsHeld : GoodIn wsX3_back wsX3_lookWhatIsHeld := goodIn_r _ [28, 29, 12, 30, 10, 11, 31, 32, 15, 33, 34, 35, 36, 55, 56, 57, 58, 59, 60, 61, 62, 63, 64, 65, 66, 67, 68, 69, 70, 71, 72, 73, 74, 75, 76, 77] rfl (by decide +kernel)
set_option maxRecDepth 20000 in
theorem gX3_back_X3_lookWhatIsHeld : GoodIn wsX3_back (wsV RX3 91 RX3 yX3_lookWhatIsHeld wsX3_lookWhatIsHeld) := goodIn_app (goodIn_r _ [25, 26, 27, 15] rfl (by decide +kernel)) ggX3_back_X3_lookWhatIsHeld
set_option maxRecDepth 20000 in
theorem ggX3_back_X3_born : GoodIn wsX3_back wsX3_born := goodIn_r _ [40, 29, 10, 11, 41, 9, 31, 32, 15, 33, 55, 56, 57, 58, 59, 60, 61, 62, 63, 64, 65, 66, 67, 68, 69, 70, 71, 72, 73, 74, 75, 76, 77] rfl (by decide +kernel)
set_option maxRecDepth 20000 in
theorem gX3_back_X3_born : GoodIn wsX3_back (wsV RX3 94 RX3 yX3_born wsX3_born) := goodIn_app (goodIn_r _ [37, 38, 39, 15] rfl (by decide +kernel)) ggX3_back_X3_born
set_option maxRecDepth 20000 in
theorem ggX3_back_X3_isLink : GoodIn wsX3_back wsX3_isLink := goodIn_r _ [33] rfl (by decide +kernel)
set_option maxRecDepth 20000 in
theorem gX3_back_X3_isLink : GoodIn wsX3_back (va_wsS RX3 74 yX3_isLink wsX3_isLink) := goodIn_app (goodIn_r _ [31, 32, 15] rfl (by decide +kernel)) ggX3_back_X3_isLink
set_option maxRecDepth 20000 in
theorem ggX3_back_X3_mayBeIn : GoodIn wsX3_back wsX3_mayBeIn := goodIn_r _ [44] rfl (by decide +kernel)
set_option maxRecDepth 20000 in
theorem gX3_back_X3_mayBeIn : GoodIn wsX3_back (va_wsS RX3 135 yX3_mayBeIn wsX3_mayBeIn) := goodIn_app (goodIn_r _ [42, 43, 15] rfl (by decide +kernel)) ggX3_back_X3_mayBeIn
set_option maxRecDepth 20000 in
theorem ggX3_back_X3_valueOf : GoodIn wsX3_back wsX3_valueOf := goodIn_r _ [47, 48, 49, 50, 51, 52, 53, 54] rfl (by decide +kernel)
set_option maxRecDepth 20000 in
theorem gX3_back_X3_valueOf : GoodIn wsX3_back (va_wsS RX3 131 yX3_valueOf wsX3_valueOf) := goodIn_app (goodIn_r _ [45, 46, 15] rfl (by decide +kernel)) ggX3_back_X3_valueOf
theorem dX3_back_0 : decode cX3_back 0 = .ok (.iload_n 1, 1) := by decide +kernel
theorem dX3_back_1 : decode cX3_back 1 = .ok (.invokestatic 84, 3) := by decide +kernel
theorem dX3_back_4 : decode cX3_back 4 = .ok (.ifCond .ne 5, 3) := by decide +kernel
theorem dX3_back_7 : decode cX3_back 7 = .ok (.iconst (-1), 1) := by decide +kernel
theorem dX3_back_8 : decode cX3_back 8 = .ok (.ireturn, 1) := by decide +kernel
theorem dX3_back_9 : decode cX3_back 9 = .ok (.aload_n 0, 1) := by decide +kernel
theorem dX3_back_10 : decode cX3_back 10 = .ok (.getfield 184, 3) := by decide +kernel
theorem dX3_back_13 : decode cX3_back 13 = .ok (.ifCond .ne 6, 3) := by decide +kernel
theorem dX3_back_16 : decode cX3_back 16 = .ok (.bipush (-3), 2) := by decide +kernel
theorem dX3_back_18 : decode cX3_back 18 = .ok (.ireturn, 1) := by decide +kernel
theorem dX3_back_19 : decode cX3_back 19 = .ok (.aload_n 0, 1) := by decide +kernel
theorem dX3_back_20 : decode cX3_back 20 = .ok (.getfield 35, 3) := by decide +kernel
theorem dX3_back_23 : decode cX3_back 23 = .ok (.aload_n 0, 1) := by decide +kernel
theorem dX3_back_24 : decode cX3_back 24 = .ok (.getfield 184, 3) := by decide +kernel
theorem dX3_back_27 : decode cX3_back 27 = .ok (.iconst 1, 1) := by decide +kernel
theorem dX3_back_28 : decode cX3_back 28 = .ok (.isub, 1) := by decide +kernel
theorem dX3_back_29 : decode cX3_back 29 = .ok (.iaload, 1) := by decide +kernel
theorem dX3_back_30 : decode cX3_back 30 = .ok (.iconst 1, 1) := by decide +kernel
theorem dX3_back_31 : decode cX3_back 31 = .ok (.iadd, 1) := by decide +kernel
theorem dX3_back_32 : decode cX3_back 32 = .ok (.istore_n 2, 1) := by decide +kernel
theorem dX3_back_33 : decode cX3_back 33 = .ok (.iconst 0, 1) := by decide +kernel
theorem dX3_back_34 : decode cX3_back 34 = .ok (.istore_n 3, 1) := by decide +kernel
theorem dX3_back_35 : decode cX3_back 35 = .ok (.iload_n 3, 1) := by decide +kernel
theorem dX3_back_36 : decode cX3_back 36 = .ok (.iload_n 2, 1) := by decide +kernel
theorem dX3_back_37 : decode cX3_back 37 = .ok (.if_icmp .ge 44, 3) := by decide +kernel
theorem dX3_back_40 : decode cX3_back 40 = .ok (.aload_n 0, 1) := by decide +kernel
theorem dX3_back_41 : decode cX3_back 41 = .ok (.iload_n 3, 1) := by decide +kernel
theorem dX3_back_42 : decode cX3_back 42 = .ok (.iconst (-1), 1) := by decide +kernel
theorem dX3_back_43 : decode cX3_back 43 = .ok (.invokevirtual 187, 3) := by decide +kernel
theorem dX3_back_46 : decode cX3_back 46 = .ok (.ldc2_w 142, 3) := by decide +kernel
theorem dX3_back_49 : decode cX3_back 49 = .ok (.lcmp, 1) := by decide +kernel
theorem dX3_back_50 : decode cX3_back 50 = .ok (.ifCond .ne 25, 3) := by decide +kernel
theorem dX3_back_53 : decode cX3_back 53 = .ok (.aload_n 0, 1) := by decide +kernel
theorem dX3_back_54 : decode cX3_back 54 = .ok (.iload_n 3, 1) := by decide +kernel
theorem dX3_back_55 : decode cX3_back 55 = .ok (.bipush 13, 2) := by decide +kernel
theorem dX3_back_57 : decode cX3_back 57 = .ok (.invokevirtual 187, 3) := by decide +kernel
theorem dX3_back_60 : decode cX3_back 60 = .ok (.l2i, 1) := by decide +kernel
theorem dX3_back_61 : decode cX3_back 61 = .ok (.i2l, 1) := by decide +kernel
theorem dX3_back_62 : decode cX3_back 62 = .ok (.lconst 0, 1) := by decide +kernel
theorem dX3_back_63 : decode cX3_back 63 = .ok (.ldc2_w 89, 3) := by decide +kernel
theorem dX3_back_66 : decode cX3_back 66 = .ok (.invokestatic 70, 3) := by decide +kernel
theorem dX3_back_69 : decode cX3_back 69 = .ok (.ifCond .ne 6, 3) := by decide +kernel
theorem dX3_back_72 : decode cX3_back 72 = .ok (.bipush (-18), 2) := by decide +kernel
theorem dX3_back_74 : decode cX3_back 74 = .ok (.ireturn, 1) := by decide +kernel
theorem dX3_back_75 : decode cX3_back 75 = .ok (.iinc 3 1, 3) := by decide +kernel
theorem dX3_back_78 : decode cX3_back 78 = .ok (.goto (-43), 3) := by decide +kernel
theorem dX3_back_81 : decode cX3_back 81 = .ok (.aload_n 0, 1) := by decide +kernel
theorem dX3_back_82 : decode cX3_back 82 = .ok (.invokevirtual 91, 3) := by decide +kernel
theorem dX3_back_85 : decode cX3_back 85 = .ok (.iconst 0, 1) := by decide +kernel
theorem dX3_back_86 : decode cX3_back 86 = .ok (.istore_n 3, 1) := by decide +kernel
theorem dX3_back_87 : decode cX3_back 87 = .ok (.iload_n 3, 1) := by decide +kernel
theorem dX3_back_88 : decode cX3_back 88 = .ok (.iload_n 2, 1) := by decide +kernel
theorem dX3_back_89 : decode cX3_back 89 = .ok (.if_icmp .ge 49, 3) := by decide +kernel
theorem dX3_back_92 : decode cX3_back 92 = .ok (.aload_n 0, 1) := by decide +kernel
theorem dX3_back_93 : decode cX3_back 93 = .ok (.iload_n 3, 1) := by decide +kernel
theorem dX3_back_94 : decode cX3_back 94 = .ok (.iconst (-1), 1) := by decide +kernel
theorem dX3_back_95 : decode cX3_back 95 = .ok (.invokevirtual 187, 3) := by decide +kernel
theorem dX3_back_98 : decode cX3_back 98 = .ok (.l2i, 1) := by decide +kernel
theorem dX3_back_99 : decode cX3_back 99 = .ok (.istore 4, 2) := by decide +kernel
theorem dX3_back_101 : decode cX3_back 101 = .ok (.aload_n 0, 1) := by decide +kernel
theorem dX3_back_102 : decode cX3_back 102 = .ok (.getfield 56, 3) := by decide +kernel
theorem dX3_back_105 : decode cX3_back 105 = .ok (.iload_n 3, 1) := by decide +kernel
theorem dX3_back_106 : decode cX3_back 106 = .ok (.aload_n 0, 1) := by decide +kernel
theorem dX3_back_107 : decode cX3_back 107 = .ok (.iload 4, 2) := by decide +kernel
theorem dX3_back_109 : decode cX3_back 109 = .ok (.aload_n 0, 1) := by decide +kernel
theorem dX3_back_110 : decode cX3_back 110 = .ok (.iload_n 3, 1) := by decide +kernel
theorem dX3_back_111 : decode cX3_back 111 = .ok (.iload 4, 2) := by decide +kernel
theorem dX3_back_113 : decode cX3_back 113 = .ok (.iconst 2, 1) := by decide +kernel
theorem dX3_back_114 : decode cX3_back 114 = .ok (.if_icmp .ne 8, 3) := by decide +kernel
theorem dX3_back_117 : decode cX3_back 117 = .ok (.bipush 13, 2) := by decide +kernel
theorem dX3_back_119 : decode cX3_back 119 = .ok (.goto 5, 3) := by decide +kernel
theorem dX3_back_122 : decode cX3_back 122 = .ok (.bipush 16, 2) := by decide +kernel
theorem dX3_back_124 : decode cX3_back 124 = .ok (.invokevirtual 187, 3) := by decide +kernel
theorem dX3_back_127 : decode cX3_back 127 = .ok (.l2i, 1) := by decide +kernel
theorem dX3_back_128 : decode cX3_back 128 = .ok (.invokevirtual 94, 3) := by decide +kernel
theorem dX3_back_131 : decode cX3_back 131 = .ok (.iastore, 1) := by decide +kernel
theorem dX3_back_132 : decode cX3_back 132 = .ok (.iinc 3 1, 3) := by decide +kernel
theorem dX3_back_135 : decode cX3_back 135 = .ok (.goto (-48), 3) := by decide +kernel
theorem dX3_back_138 : decode cX3_back 138 = .ok (.iconst 0, 1) := by decide +kernel
theorem dX3_back_139 : decode cX3_back 139 = .ok (.istore_n 3, 1) := by decide +kernel
theorem dX3_back_140 : decode cX3_back 140 = .ok (.iload_n 3, 1) := by decide +kernel
theorem dX3_back_141 : decode cX3_back 141 = .ok (.aload_n 0, 1) := by decide +kernel
theorem dX3_back_142 : decode cX3_back 142 = .ok (.getfield 184, 3) := by decide +kernel
theorem dX3_back_145 : decode cX3_back 145 = .ok (.if_icmp .ge 190, 3) := by decide +kernel
theorem dX3_back_148 : decode cX3_back 148 = .ok (.aload_n 0, 1) := by decide +kernel
theorem dX3_back_149 : decode cX3_back 149 = .ok (.getfield 56, 3) := by decide +kernel
theorem dX3_back_152 : decode cX3_back 152 = .ok (.aload_n 0, 1) := by decide +kernel
theorem dX3_back_153 : decode cX3_back 153 = .ok (.getfield 35, 3) := by decide +kernel
theorem dX3_back_156 : decode cX3_back 156 = .ok (.iload_n 3, 1) := by decide +kernel
theorem dX3_back_157 : decode cX3_back 157 = .ok (.iaload, 1) := by decide +kernel
theorem dX3_back_158 : decode cX3_back 158 = .ok (.iaload, 1) := by decide +kernel
theorem dX3_back_159 : decode cX3_back 159 = .ok (.istore 4, 2) := by decide +kernel
theorem dX3_back_161 : decode cX3_back 161 = .ok (.aload_n 0, 1) := by decide +kernel
theorem dX3_back_162 : decode cX3_back 162 = .ok (.getfield 38, 3) := by decide +kernel
theorem dX3_back_165 : decode cX3_back 165 = .ok (.iload_n 3, 1) := by decide +kernel
theorem dX3_back_166 : decode cX3_back 166 = .ok (.iaload, 1) := by decide +kernel
theorem dX3_back_167 : decode cX3_back 167 = .ok (.istore 5, 2) := by decide +kernel
theorem dX3_back_169 : decode cX3_back 169 = .ok (.aload_n 0, 1) := by decide +kernel
theorem dX3_back_170 : decode cX3_back 170 = .ok (.getfield 41, 3) := by decide +kernel
theorem dX3_back_173 : decode cX3_back 173 = .ok (.iload_n 3, 1) := by decide +kernel
theorem dX3_back_174 : decode cX3_back 174 = .ok (.laload, 1) := by decide +kernel
theorem dX3_back_175 : decode cX3_back 175 = .ok (.lstore 6, 2) := by decide +kernel
theorem dX3_back_177 : decode cX3_back 177 = .ok (.iload 5, 2) := by decide +kernel
theorem dX3_back_179 : decode cX3_back 179 = .ok (.bipush 100, 2) := by decide +kernel
theorem dX3_back_181 : decode cX3_back 181 = .ok (.if_icmp .lt 25, 3) := by decide +kernel
theorem dX3_back_184 : decode cX3_back 184 = .ok (.aload_n 0, 1) := by decide +kernel
theorem dX3_back_185 : decode cX3_back 185 = .ok (.getfield 25, 3) := by decide +kernel
theorem dX3_back_188 : decode cX3_back 188 = .ok (.bipush 20, 2) := by decide +kernel
theorem dX3_back_190 : decode cX3_back 190 = .ok (.iload 4, 2) := by decide +kernel
theorem dX3_back_192 : decode cX3_back 192 = .ok (.imul, 1) := by decide +kernel
theorem dX3_back_193 : decode cX3_back 193 = .ok (.iload 5, 2) := by decide +kernel
theorem dX3_back_195 : decode cX3_back 195 = .ok (.iadd, 1) := by decide +kernel
theorem dX3_back_196 : decode cX3_back 196 = .ok (.bipush 100, 2) := by decide +kernel
theorem dX3_back_198 : decode cX3_back 198 = .ok (.isub, 1) := by decide +kernel
theorem dX3_back_199 : decode cX3_back 199 = .ok (.lload 6, 2) := by decide +kernel
theorem dX3_back_201 : decode cX3_back 201 = .ok (.l2i, 1) := by decide +kernel
theorem dX3_back_202 : decode cX3_back 202 = .ok (.iastore, 1) := by decide +kernel
theorem dX3_back_203 : decode cX3_back 203 = .ok (.goto 126, 3) := by decide +kernel
theorem dX3_back_206 : decode cX3_back 206 = .ok (.iload 5, 2) := by decide +kernel
theorem dX3_back_208 : decode cX3_back 208 = .ok (.bipush 9, 2) := by decide +kernel
theorem dX3_back_210 : decode cX3_back 210 = .ok (.if_icmp .ne 16, 3) := by decide +kernel
theorem dX3_back_213 : decode cX3_back 213 = .ok (.aload_n 0, 1) := by decide +kernel
theorem dX3_back_214 : decode cX3_back 214 = .ok (.getfield 21, 3) := by decide +kernel
theorem dX3_back_217 : decode cX3_back 217 = .ok (.iload 4, 2) := by decide +kernel
theorem dX3_back_219 : decode cX3_back 219 = .ok (.lload 6, 2) := by decide +kernel
theorem dX3_back_221 : decode cX3_back 221 = .ok (.l2i, 1) := by decide +kernel
theorem dX3_back_222 : decode cX3_back 222 = .ok (.iastore, 1) := by decide +kernel
theorem dX3_back_223 : decode cX3_back 223 = .ok (.goto 106, 3) := by decide +kernel
theorem dX3_back_226 : decode cX3_back 226 = .ok (.iload 5, 2) := by decide +kernel
theorem dX3_back_228 : decode cX3_back 228 = .ok (.ifCond .lt 76, 3) := by decide +kernel
theorem dX3_back_231 : decode cX3_back 231 = .ok (.iload 5, 2) := by decide +kernel
theorem dX3_back_233 : decode cX3_back 233 = .ok (.invokestatic 74, 3) := by decide +kernel
theorem dX3_back_236 : decode cX3_back 236 = .ok (.ifCond .eq 68, 3) := by decide +kernel
theorem dX3_back_239 : decode cX3_back 239 = .ok (.lload 6, 2) := by decide +kernel
theorem dX3_back_241 : decode cX3_back 241 = .ok (.lconst 0, 1) := by decide +kernel
theorem dX3_back_242 : decode cX3_back 242 = .ok (.iload_n 2, 1) := by decide +kernel
theorem dX3_back_243 : decode cX3_back 243 = .ok (.iconst 1, 1) := by decide +kernel
theorem dX3_back_244 : decode cX3_back 244 = .ok (.isub, 1) := by decide +kernel
theorem dX3_back_245 : decode cX3_back 245 = .ok (.i2l, 1) := by decide +kernel
theorem dX3_back_246 : decode cX3_back 246 = .ok (.invokestatic 70, 3) := by decide +kernel
theorem dX3_back_249 : decode cX3_back 249 = .ok (.ifCond .ne 6, 3) := by decide +kernel
theorem dX3_back_252 : decode cX3_back 252 = .ok (.bipush (-12), 2) := by decide +kernel
theorem dX3_back_254 : decode cX3_back 254 = .ok (.ireturn, 1) := by decide +kernel
theorem dX3_back_255 : decode cX3_back 255 = .ok (.aload_n 0, 1) := by decide +kernel
theorem dX3_back_256 : decode cX3_back 256 = .ok (.getfield 13, 3) := by decide +kernel
theorem dX3_back_259 : decode cX3_back 259 = .ok (.aload_n 0, 1) := by decide +kernel
theorem dX3_back_260 : decode cX3_back 260 = .ok (.getfield 56, 3) := by decide +kernel
theorem dX3_back_263 : decode cX3_back 263 = .ok (.lload 6, 2) := by decide +kernel
theorem dX3_back_265 : decode cX3_back 265 = .ok (.l2i, 1) := by decide +kernel
theorem dX3_back_266 : decode cX3_back 266 = .ok (.iaload, 1) := by decide +kernel
theorem dX3_back_267 : decode cX3_back 267 = .ok (.iaload, 1) := by decide +kernel
theorem dX3_back_268 : decode cX3_back 268 = .ok (.iload 5, 2) := by decide +kernel
theorem dX3_back_270 : decode cX3_back 270 = .ok (.invokestatic 135, 3) := by decide +kernel
theorem dX3_back_273 : decode cX3_back 273 = .ok (.ifCond .ne 6, 3) := by decide +kernel
theorem dX3_back_276 : decode cX3_back 276 = .ok (.bipush (-14), 2) := by decide +kernel
theorem dX3_back_278 : decode cX3_back 278 = .ok (.ireturn, 1) := by decide +kernel
theorem dX3_back_279 : decode cX3_back 279 = .ok (.aload_n 0, 1) := by decide +kernel
theorem dX3_back_280 : decode cX3_back 280 = .ok (.getfield 17, 3) := by decide +kernel
theorem dX3_back_283 : decode cX3_back 283 = .ok (.bipush 17, 2) := by decide +kernel
theorem dX3_back_285 : decode cX3_back 285 = .ok (.iload 4, 2) := by decide +kernel
theorem dX3_back_287 : decode cX3_back 287 = .ok (.imul, 1) := by decide +kernel
theorem dX3_back_288 : decode cX3_back 288 = .ok (.iload 5, 2) := by decide +kernel
theorem dX3_back_290 : decode cX3_back 290 = .ok (.iadd, 1) := by decide +kernel
theorem dX3_back_291 : decode cX3_back 291 = .ok (.aload_n 0, 1) := by decide +kernel
theorem dX3_back_292 : decode cX3_back 292 = .ok (.getfield 56, 3) := by decide +kernel
theorem dX3_back_295 : decode cX3_back 295 = .ok (.lload 6, 2) := by decide +kernel
theorem dX3_back_297 : decode cX3_back 297 = .ok (.l2i, 1) := by decide +kernel
theorem dX3_back_298 : decode cX3_back 298 = .ok (.iaload, 1) := by decide +kernel
theorem dX3_back_299 : decode cX3_back 299 = .ok (.i2l, 1) := by decide +kernel
theorem dX3_back_300 : decode cX3_back 300 = .ok (.lastore, 1) := by decide +kernel
theorem dX3_back_301 : decode cX3_back 301 = .ok (.goto 28, 3) := by decide +kernel
theorem dX3_back_304 : decode cX3_back 304 = .ok (.iload 5, 2) := by decide +kernel
theorem dX3_back_306 : decode cX3_back 306 = .ok (.ifCond .lt 23, 3) := by decide +kernel
theorem dX3_back_309 : decode cX3_back 309 = .ok (.aload_n 0, 1) := by decide +kernel
theorem dX3_back_310 : decode cX3_back 310 = .ok (.getfield 17, 3) := by decide +kernel
theorem dX3_back_313 : decode cX3_back 313 = .ok (.bipush 17, 2) := by decide +kernel
theorem dX3_back_315 : decode cX3_back 315 = .ok (.iload 4, 2) := by decide +kernel
theorem dX3_back_317 : decode cX3_back 317 = .ok (.imul, 1) := by decide +kernel
theorem dX3_back_318 : decode cX3_back 318 = .ok (.iload 5, 2) := by decide +kernel
theorem dX3_back_320 : decode cX3_back 320 = .ok (.iadd, 1) := by decide +kernel
theorem dX3_back_321 : decode cX3_back 321 = .ok (.iload 5, 2) := by decide +kernel
theorem dX3_back_323 : decode cX3_back 323 = .ok (.lload 6, 2) := by decide +kernel
theorem dX3_back_325 : decode cX3_back 325 = .ok (.invokestatic 131, 3) := by decide +kernel
theorem dX3_back_328 : decode cX3_back 328 = .ok (.lastore, 1) := by decide +kernel
theorem dX3_back_329 : decode cX3_back 329 = .ok (.iinc 3 1, 3) := by decide +kernel
theorem dX3_back_332 : decode cX3_back 332 = .ok (.goto (-192), 3) := by decide +kernel
theorem dX3_back_335 : decode cX3_back 335 = .ok (.aload_n 0, 1) := by decide +kernel
theorem dX3_back_336 : decode cX3_back 336 = .ok (.getfield 7, 3) := by decide +kernel
theorem dX3_back_339 : decode cX3_back 339 = .ok (.iload_n 1, 1) := by decide +kernel
theorem dX3_back_340 : decode cX3_back 340 = .ok (.aload_n 0, 1) := by decide +kernel
theorem dX3_back_341 : decode cX3_back 341 = .ok (.getfield 56, 3) := by decide +kernel
theorem dX3_back_344 : decode cX3_back 344 = .ok (.iconst 0, 1) := by decide +kernel
theorem dX3_back_345 : decode cX3_back 345 = .ok (.iaload, 1) := by decide +kernel
theorem dX3_back_346 : decode cX3_back 346 = .ok (.iastore, 1) := by decide +kernel
theorem dX3_back_347 : decode cX3_back 347 = .ok (.iload_n 2, 1) := by decide +kernel
theorem dX3_back_348 : decode cX3_back 348 = .ok (.ireturn, 1) := by decide +kernel
set_option maxRecDepth 20000 in
theorem ggX3_equal_X3_isSlot : GoodIn wsX3_equal wsX3_isSlot := goodIn_r _ [12, 13, 14, 15, 11, 16] rfl (by decide +kernel)
set_option maxRecDepth 20000 in
theorem gX3_equal_X3_isSlot : GoodIn wsX3_equal (va_wsS RX3 84 yX3_isSlot wsX3_isSlot) := goodIn_app (goodIn_r _ [9, 10, 11] rfl (by decide +kernel)) ggX3_equal_X3_isSlot
set_option maxRecDepth 20000 in
theorem ggX3_equal_X3_find : GoodIn wsX3_equal wsX3_find := goodIn_r _ [20, 21, 22, 2, 23, 24, 25, 26, 27, 11, 28, 29, 30, 31, 32, 33, 34, 35, 36, 37, 38, 39, 40, 41, 42, 43, 44, 45, 46, 4, 6, 8, 47, 48, 49, 50, 51, 52, 53, 54, 55, 56, 57, 58, 59, 60, 61, 62, 63, 64, 65, 66, 67, 68, 69] rfl (by decide +kernel)
set_option maxRecDepth 20000 in
theorem gX3_equal_X3_find : GoodIn wsX3_equal (wsV RX3 181 RX3 yX3_find wsX3_find) := goodIn_app (goodIn_r _ [17, 18, 19, 11] rfl (by decide +kernel)) ggX3_equal_X3_find
theorem dX3_equal_0 : decode cX3_equal 0 = .ok (.iload_n 1, 1) := by decide +kernel
theorem dX3_equal_1 : decode cX3_equal 1 = .ok (.invokestatic 84, 3) := by decide +kernel
theorem dX3_equal_4 : decode cX3_equal 4 = .ok (.ifCond .eq 10, 3) := by decide +kernel
theorem dX3_equal_7 : decode cX3_equal 7 = .ok (.iload_n 2, 1) := by decide +kernel
theorem dX3_equal_8 : decode cX3_equal 8 = .ok (.invokestatic 84, 3) := by decide +kernel
theorem dX3_equal_11 : decode cX3_equal 11 = .ok (.ifCond .ne 5, 3) := by decide +kernel
theorem dX3_equal_14 : decode cX3_equal 14 = .ok (.iconst (-1), 1) := by decide +kernel
theorem dX3_equal_15 : decode cX3_equal 15 = .ok (.ireturn, 1) := by decide +kernel
theorem dX3_equal_16 : decode cX3_equal 16 = .ok (.aload_n 0, 1) := by decide +kernel
theorem dX3_equal_17 : decode cX3_equal 17 = .ok (.getfield 7, 3) := by decide +kernel
theorem dX3_equal_20 : decode cX3_equal 20 = .ok (.iload_n 1, 1) := by decide +kernel
theorem dX3_equal_21 : decode cX3_equal 21 = .ok (.iaload, 1) := by decide +kernel
theorem dX3_equal_22 : decode cX3_equal 22 = .ok (.iconst (-1), 1) := by decide +kernel
theorem dX3_equal_23 : decode cX3_equal 23 = .ok (.if_icmp .eq 13, 3) := by decide +kernel
theorem dX3_equal_26 : decode cX3_equal 26 = .ok (.aload_n 0, 1) := by decide +kernel
theorem dX3_equal_27 : decode cX3_equal 27 = .ok (.getfield 7, 3) := by decide +kernel
theorem dX3_equal_30 : decode cX3_equal 30 = .ok (.iload_n 2, 1) := by decide +kernel
theorem dX3_equal_31 : decode cX3_equal 31 = .ok (.iaload, 1) := by decide +kernel
theorem dX3_equal_32 : decode cX3_equal 32 = .ok (.iconst (-1), 1) := by decide +kernel
theorem dX3_equal_33 : decode cX3_equal 33 = .ok (.if_icmp .ne 24, 3) := by decide +kernel
theorem dX3_equal_36 : decode cX3_equal 36 = .ok (.aload_n 0, 1) := by decide +kernel
theorem dX3_equal_37 : decode cX3_equal 37 = .ok (.getfield 7, 3) := by decide +kernel
theorem dX3_equal_40 : decode cX3_equal 40 = .ok (.iload_n 1, 1) := by decide +kernel
theorem dX3_equal_41 : decode cX3_equal 41 = .ok (.iaload, 1) := by decide +kernel
theorem dX3_equal_42 : decode cX3_equal 42 = .ok (.aload_n 0, 1) := by decide +kernel
theorem dX3_equal_43 : decode cX3_equal 43 = .ok (.getfield 7, 3) := by decide +kernel
theorem dX3_equal_46 : decode cX3_equal 46 = .ok (.iload_n 2, 1) := by decide +kernel
theorem dX3_equal_47 : decode cX3_equal 47 = .ok (.iaload, 1) := by decide +kernel
theorem dX3_equal_48 : decode cX3_equal 48 = .ok (.if_icmp .ne 7, 3) := by decide +kernel
theorem dX3_equal_51 : decode cX3_equal 51 = .ok (.iconst 1, 1) := by decide +kernel
theorem dX3_equal_52 : decode cX3_equal 52 = .ok (.goto 4, 3) := by decide +kernel
theorem dX3_equal_55 : decode cX3_equal 55 = .ok (.iconst 0, 1) := by decide +kernel
theorem dX3_equal_56 : decode cX3_equal 56 = .ok (.ireturn, 1) := by decide +kernel
theorem dX3_equal_57 : decode cX3_equal 57 = .ok (.aload_n 0, 1) := by decide +kernel
theorem dX3_equal_58 : decode cX3_equal 58 = .ok (.aload_n 0, 1) := by decide +kernel
theorem dX3_equal_59 : decode cX3_equal 59 = .ok (.getfield 7, 3) := by decide +kernel
theorem dX3_equal_62 : decode cX3_equal 62 = .ok (.iload_n 1, 1) := by decide +kernel
theorem dX3_equal_63 : decode cX3_equal 63 = .ok (.iaload, 1) := by decide +kernel
theorem dX3_equal_64 : decode cX3_equal 64 = .ok (.invokevirtual 181, 3) := by decide +kernel
theorem dX3_equal_67 : decode cX3_equal 67 = .ok (.ifCond .ne 6, 3) := by decide +kernel
theorem dX3_equal_70 : decode cX3_equal 70 = .ok (.bipush (-3), 2) := by decide +kernel
theorem dX3_equal_72 : decode cX3_equal 72 = .ok (.ireturn, 1) := by decide +kernel
theorem dX3_equal_73 : decode cX3_equal 73 = .ok (.aload_n 0, 1) := by decide +kernel
theorem dX3_equal_74 : decode cX3_equal 74 = .ok (.getfield 160, 3) := by decide +kernel
theorem dX3_equal_77 : decode cX3_equal 77 = .ok (.istore_n 3, 1) := by decide +kernel
theorem dX3_equal_78 : decode cX3_equal 78 = .ok (.iconst 0, 1) := by decide +kernel
theorem dX3_equal_79 : decode cX3_equal 79 = .ok (.istore 4, 2) := by decide +kernel
theorem dX3_equal_81 : decode cX3_equal 81 = .ok (.iload 4, 2) := by decide +kernel
theorem dX3_equal_83 : decode cX3_equal 83 = .ok (.iload_n 3, 1) := by decide +kernel
theorem dX3_equal_84 : decode cX3_equal 84 = .ok (.if_icmp .ge 51, 3) := by decide +kernel
theorem dX3_equal_87 : decode cX3_equal 87 = .ok (.aload_n 0, 1) := by decide +kernel
theorem dX3_equal_88 : decode cX3_equal 88 = .ok (.getfield 59, 3) := by decide +kernel
theorem dX3_equal_91 : decode cX3_equal 91 = .ok (.iload 4, 2) := by decide +kernel
theorem dX3_equal_93 : decode cX3_equal 93 = .ok (.aload_n 0, 1) := by decide +kernel
theorem dX3_equal_94 : decode cX3_equal 94 = .ok (.getfield 47, 3) := by decide +kernel
theorem dX3_equal_97 : decode cX3_equal 97 = .ok (.iload 4, 2) := by decide +kernel
theorem dX3_equal_99 : decode cX3_equal 99 = .ok (.iaload, 1) := by decide +kernel
theorem dX3_equal_100 : decode cX3_equal 100 = .ok (.iastore, 1) := by decide +kernel
theorem dX3_equal_101 : decode cX3_equal 101 = .ok (.aload_n 0, 1) := by decide +kernel
theorem dX3_equal_102 : decode cX3_equal 102 = .ok (.getfield 62, 3) := by decide +kernel
theorem dX3_equal_105 : decode cX3_equal 105 = .ok (.iload 4, 2) := by decide +kernel
theorem dX3_equal_107 : decode cX3_equal 107 = .ok (.aload_n 0, 1) := by decide +kernel
theorem dX3_equal_108 : decode cX3_equal 108 = .ok (.getfield 50, 3) := by decide +kernel
theorem dX3_equal_111 : decode cX3_equal 111 = .ok (.iload 4, 2) := by decide +kernel
theorem dX3_equal_113 : decode cX3_equal 113 = .ok (.iaload, 1) := by decide +kernel
theorem dX3_equal_114 : decode cX3_equal 114 = .ok (.iastore, 1) := by decide +kernel
theorem dX3_equal_115 : decode cX3_equal 115 = .ok (.aload_n 0, 1) := by decide +kernel
theorem dX3_equal_116 : decode cX3_equal 116 = .ok (.getfield 65, 3) := by decide +kernel
theorem dX3_equal_119 : decode cX3_equal 119 = .ok (.iload 4, 2) := by decide +kernel
theorem dX3_equal_121 : decode cX3_equal 121 = .ok (.aload_n 0, 1) := by decide +kernel
theorem dX3_equal_122 : decode cX3_equal 122 = .ok (.getfield 53, 3) := by decide +kernel
theorem dX3_equal_125 : decode cX3_equal 125 = .ok (.iload 4, 2) := by decide +kernel
theorem dX3_equal_127 : decode cX3_equal 127 = .ok (.laload, 1) := by decide +kernel
theorem dX3_equal_128 : decode cX3_equal 128 = .ok (.lastore, 1) := by decide +kernel
theorem dX3_equal_129 : decode cX3_equal 129 = .ok (.iinc 4 1, 3) := by decide +kernel
theorem dX3_equal_132 : decode cX3_equal 132 = .ok (.goto (-51), 3) := by decide +kernel
theorem dX3_equal_135 : decode cX3_equal 135 = .ok (.aload_n 0, 1) := by decide +kernel
theorem dX3_equal_136 : decode cX3_equal 136 = .ok (.aload_n 0, 1) := by decide +kernel
theorem dX3_equal_137 : decode cX3_equal 137 = .ok (.getfield 7, 3) := by decide +kernel
theorem dX3_equal_140 : decode cX3_equal 140 = .ok (.iload_n 2, 1) := by decide +kernel
theorem dX3_equal_141 : decode cX3_equal 141 = .ok (.iaload, 1) := by decide +kernel
theorem dX3_equal_142 : decode cX3_equal 142 = .ok (.invokevirtual 181, 3) := by decide +kernel
theorem dX3_equal_145 : decode cX3_equal 145 = .ok (.ifCond .ne 6, 3) := by decide +kernel
theorem dX3_equal_148 : decode cX3_equal 148 = .ok (.bipush (-3), 2) := by decide +kernel
theorem dX3_equal_150 : decode cX3_equal 150 = .ok (.ireturn, 1) := by decide +kernel
theorem dX3_equal_151 : decode cX3_equal 151 = .ok (.iload_n 3, 1) := by decide +kernel
theorem dX3_equal_152 : decode cX3_equal 152 = .ok (.aload_n 0, 1) := by decide +kernel
theorem dX3_equal_153 : decode cX3_equal 153 = .ok (.getfield 160, 3) := by decide +kernel
theorem dX3_equal_156 : decode cX3_equal 156 = .ok (.if_icmp .ne 7, 3) := by decide +kernel
theorem dX3_equal_159 : decode cX3_equal 159 = .ok (.iconst 1, 1) := by decide +kernel
theorem dX3_equal_160 : decode cX3_equal 160 = .ok (.goto 4, 3) := by decide +kernel
theorem dX3_equal_163 : decode cX3_equal 163 = .ok (.iconst 0, 1) := by decide +kernel
theorem dX3_equal_164 : decode cX3_equal 164 = .ok (.istore 4, 2) := by decide +kernel
theorem dX3_equal_166 : decode cX3_equal 166 = .ok (.iconst 0, 1) := by decide +kernel
theorem dX3_equal_167 : decode cX3_equal 167 = .ok (.istore 5, 2) := by decide +kernel
theorem dX3_equal_169 : decode cX3_equal 169 = .ok (.iload 5, 2) := by decide +kernel
theorem dX3_equal_171 : decode cX3_equal 171 = .ok (.iload_n 3, 1) := by decide +kernel
theorem dX3_equal_172 : decode cX3_equal 172 = .ok (.if_icmp .ge 73, 3) := by decide +kernel
theorem dX3_equal_175 : decode cX3_equal 175 = .ok (.iload 4, 2) := by decide +kernel
theorem dX3_equal_177 : decode cX3_equal 177 = .ok (.ifCond .eq 68, 3) := by decide +kernel
theorem dX3_equal_180 : decode cX3_equal 180 = .ok (.aload_n 0, 1) := by decide +kernel
theorem dX3_equal_181 : decode cX3_equal 181 = .ok (.getfield 59, 3) := by decide +kernel
theorem dX3_equal_184 : decode cX3_equal 184 = .ok (.iload 5, 2) := by decide +kernel
theorem dX3_equal_186 : decode cX3_equal 186 = .ok (.iaload, 1) := by decide +kernel
theorem dX3_equal_187 : decode cX3_equal 187 = .ok (.aload_n 0, 1) := by decide +kernel
theorem dX3_equal_188 : decode cX3_equal 188 = .ok (.getfield 47, 3) := by decide +kernel
theorem dX3_equal_191 : decode cX3_equal 191 = .ok (.iload 5, 2) := by decide +kernel
theorem dX3_equal_193 : decode cX3_equal 193 = .ok (.iaload, 1) := by decide +kernel
theorem dX3_equal_194 : decode cX3_equal 194 = .ok (.if_icmp .ne 42, 3) := by decide +kernel
theorem dX3_equal_197 : decode cX3_equal 197 = .ok (.aload_n 0, 1) := by decide +kernel
theorem dX3_equal_198 : decode cX3_equal 198 = .ok (.getfield 62, 3) := by decide +kernel
theorem dX3_equal_201 : decode cX3_equal 201 = .ok (.iload 5, 2) := by decide +kernel
theorem dX3_equal_203 : decode cX3_equal 203 = .ok (.iaload, 1) := by decide +kernel
theorem dX3_equal_204 : decode cX3_equal 204 = .ok (.aload_n 0, 1) := by decide +kernel
theorem dX3_equal_205 : decode cX3_equal 205 = .ok (.getfield 50, 3) := by decide +kernel
theorem dX3_equal_208 : decode cX3_equal 208 = .ok (.iload 5, 2) := by decide +kernel
theorem dX3_equal_210 : decode cX3_equal 210 = .ok (.iaload, 1) := by decide +kernel
theorem dX3_equal_211 : decode cX3_equal 211 = .ok (.if_icmp .ne 25, 3) := by decide +kernel
theorem dX3_equal_214 : decode cX3_equal 214 = .ok (.aload_n 0, 1) := by decide +kernel
theorem dX3_equal_215 : decode cX3_equal 215 = .ok (.getfield 65, 3) := by decide +kernel
theorem dX3_equal_218 : decode cX3_equal 218 = .ok (.iload 5, 2) := by decide +kernel
theorem dX3_equal_220 : decode cX3_equal 220 = .ok (.laload, 1) := by decide +kernel
theorem dX3_equal_221 : decode cX3_equal 221 = .ok (.aload_n 0, 1) := by decide +kernel
theorem dX3_equal_222 : decode cX3_equal 222 = .ok (.getfield 53, 3) := by decide +kernel
theorem dX3_equal_225 : decode cX3_equal 225 = .ok (.iload 5, 2) := by decide +kernel
theorem dX3_equal_227 : decode cX3_equal 227 = .ok (.laload, 1) := by decide +kernel
theorem dX3_equal_228 : decode cX3_equal 228 = .ok (.lcmp, 1) := by decide +kernel
theorem dX3_equal_229 : decode cX3_equal 229 = .ok (.ifCond .ne 7, 3) := by decide +kernel
theorem dX3_equal_232 : decode cX3_equal 232 = .ok (.iconst 1, 1) := by decide +kernel
theorem dX3_equal_233 : decode cX3_equal 233 = .ok (.goto 4, 3) := by decide +kernel
theorem dX3_equal_236 : decode cX3_equal 236 = .ok (.iconst 0, 1) := by decide +kernel
theorem dX3_equal_237 : decode cX3_equal 237 = .ok (.istore 4, 2) := by decide +kernel
theorem dX3_equal_239 : decode cX3_equal 239 = .ok (.iinc 5 1, 3) := by decide +kernel
theorem dX3_equal_242 : decode cX3_equal 242 = .ok (.goto (-73), 3) := by decide +kernel
theorem dX3_equal_245 : decode cX3_equal 245 = .ok (.iload 4, 2) := by decide +kernel
theorem dX3_equal_247 : decode cX3_equal 247 = .ok (.ifCond .eq 7, 3) := by decide +kernel
theorem dX3_equal_250 : decode cX3_equal 250 = .ok (.iconst 1, 1) := by decide +kernel
theorem dX3_equal_251 : decode cX3_equal 251 = .ok (.goto 4, 3) := by decide +kernel
theorem dX3_equal_254 : decode cX3_equal 254 = .ok (.iconst 0, 1) := by decide +kernel
theorem dX3_equal_255 : decode cX3_equal 255 = .ok (.ireturn, 1) := by decide +kernel
theorem dX3_isChanged_0 : decode cX3_isChanged 0 = .ok (.iload_n 3, 1) := by decide +kernel
theorem dX3_isChanged_1 : decode cX3_isChanged 1 = .ok (.bipush 9, 2) := by decide +kernel
theorem dX3_isChanged_3 : decode cX3_isChanged 3 = .ok (.if_icmp .eq 35, 3) := by decide +kernel
theorem dX3_isChanged_6 : decode cX3_isChanged 6 = .ok (.aload_n 0, 1) := by decide +kernel
theorem dX3_isChanged_7 : decode cX3_isChanged 7 = .ok (.getfield 17, 3) := by decide +kernel
theorem dX3_isChanged_10 : decode cX3_isChanged 10 = .ok (.bipush 17, 2) := by decide +kernel
theorem dX3_isChanged_12 : decode cX3_isChanged 12 = .ok (.iload_n 1, 1) := by decide +kernel
theorem dX3_isChanged_13 : decode cX3_isChanged 13 = .ok (.imul, 1) := by decide +kernel
theorem dX3_isChanged_14 : decode cX3_isChanged 14 = .ok (.iload_n 3, 1) := by decide +kernel
theorem dX3_isChanged_15 : decode cX3_isChanged 15 = .ok (.iadd, 1) := by decide +kernel
theorem dX3_isChanged_16 : decode cX3_isChanged 16 = .ok (.laload, 1) := by decide +kernel
theorem dX3_isChanged_17 : decode cX3_isChanged 17 = .ok (.aload_n 0, 1) := by decide +kernel
theorem dX3_isChanged_18 : decode cX3_isChanged 18 = .ok (.getfield 17, 3) := by decide +kernel
theorem dX3_isChanged_21 : decode cX3_isChanged 21 = .ok (.bipush 17, 2) := by decide +kernel
theorem dX3_isChanged_23 : decode cX3_isChanged 23 = .ok (.iload_n 2, 1) := by decide +kernel
theorem dX3_isChanged_24 : decode cX3_isChanged 24 = .ok (.imul, 1) := by decide +kernel
theorem dX3_isChanged_25 : decode cX3_isChanged 25 = .ok (.iload_n 3, 1) := by decide +kernel
theorem dX3_isChanged_26 : decode cX3_isChanged 26 = .ok (.iadd, 1) := by decide +kernel
theorem dX3_isChanged_27 : decode cX3_isChanged 27 = .ok (.laload, 1) := by decide +kernel
theorem dX3_isChanged_28 : decode cX3_isChanged 28 = .ok (.lcmp, 1) := by decide +kernel
theorem dX3_isChanged_29 : decode cX3_isChanged 29 = .ok (.ifCond .eq 7, 3) := by decide +kernel
theorem dX3_isChanged_32 : decode cX3_isChanged 32 = .ok (.iconst 1, 1) := by decide +kernel
theorem dX3_isChanged_33 : decode cX3_isChanged 33 = .ok (.goto 4, 3) := by decide +kernel
theorem dX3_isChanged_36 : decode cX3_isChanged 36 = .ok (.iconst 0, 1) := by decide +kernel
theorem dX3_isChanged_37 : decode cX3_isChanged 37 = .ok (.ireturn, 1) := by decide +kernel
theorem dX3_isChanged_38 : decode cX3_isChanged 38 = .ok (.aload_n 0, 1) := by decide +kernel
theorem dX3_isChanged_39 : decode cX3_isChanged 39 = .ok (.getfield 21, 3) := by decide +kernel
theorem dX3_isChanged_42 : decode cX3_isChanged 42 = .ok (.iload_n 1, 1) := by decide +kernel
theorem dX3_isChanged_43 : decode cX3_isChanged 43 = .ok (.iaload, 1) := by decide +kernel
theorem dX3_isChanged_44 : decode cX3_isChanged 44 = .ok (.aload_n 0, 1) := by decide +kernel
theorem dX3_isChanged_45 : decode cX3_isChanged 45 = .ok (.getfield 21, 3) := by decide +kernel
theorem dX3_isChanged_48 : decode cX3_isChanged 48 = .ok (.iload_n 2, 1) := by decide +kernel
theorem dX3_isChanged_49 : decode cX3_isChanged 49 = .ok (.iaload, 1) := by decide +kernel
theorem dX3_isChanged_50 : decode cX3_isChanged 50 = .ok (.if_icmp .eq 7, 3) := by decide +kernel
theorem dX3_isChanged_53 : decode cX3_isChanged 53 = .ok (.iconst 1, 1) := by decide +kernel
theorem dX3_isChanged_54 : decode cX3_isChanged 54 = .ok (.goto 4, 3) := by decide +kernel
theorem dX3_isChanged_57 : decode cX3_isChanged 57 = .ok (.iconst 0, 1) := by decide +kernel
theorem dX3_isChanged_58 : decode cX3_isChanged 58 = .ok (.istore 4, 2) := by decide +kernel
theorem dX3_isChanged_60 : decode cX3_isChanged 60 = .ok (.iconst 0, 1) := by decide +kernel
theorem dX3_isChanged_61 : decode cX3_isChanged 61 = .ok (.istore 5, 2) := by decide +kernel
theorem dX3_isChanged_63 : decode cX3_isChanged 63 = .ok (.iload 5, 2) := by decide +kernel
theorem dX3_isChanged_65 : decode cX3_isChanged 65 = .ok (.aload_n 0, 1) := by decide +kernel
theorem dX3_isChanged_66 : decode cX3_isChanged 66 = .ok (.getfield 21, 3) := by decide +kernel
theorem dX3_isChanged_69 : decode cX3_isChanged 69 = .ok (.iload_n 1, 1) := by decide +kernel
theorem dX3_isChanged_70 : decode cX3_isChanged 70 = .ok (.iaload, 1) := by decide +kernel
theorem dX3_isChanged_71 : decode cX3_isChanged 71 = .ok (.if_icmp .ge 48, 3) := by decide +kernel
theorem dX3_isChanged_74 : decode cX3_isChanged 74 = .ok (.iload 4, 2) := by decide +kernel
theorem dX3_isChanged_76 : decode cX3_isChanged 76 = .ok (.ifCond .ne 43, 3) := by decide +kernel
theorem dX3_isChanged_79 : decode cX3_isChanged 79 = .ok (.aload_n 0, 1) := by decide +kernel
theorem dX3_isChanged_80 : decode cX3_isChanged 80 = .ok (.getfield 25, 3) := by decide +kernel
theorem dX3_isChanged_83 : decode cX3_isChanged 83 = .ok (.bipush 20, 2) := by decide +kernel
theorem dX3_isChanged_85 : decode cX3_isChanged 85 = .ok (.iload_n 1, 1) := by decide +kernel
theorem dX3_isChanged_86 : decode cX3_isChanged 86 = .ok (.imul, 1) := by decide +kernel
theorem dX3_isChanged_87 : decode cX3_isChanged 87 = .ok (.iload 5, 2) := by decide +kernel
theorem dX3_isChanged_89 : decode cX3_isChanged 89 = .ok (.iadd, 1) := by decide +kernel
theorem dX3_isChanged_90 : decode cX3_isChanged 90 = .ok (.iaload, 1) := by decide +kernel
theorem dX3_isChanged_91 : decode cX3_isChanged 91 = .ok (.aload_n 0, 1) := by decide +kernel
theorem dX3_isChanged_92 : decode cX3_isChanged 92 = .ok (.getfield 25, 3) := by decide +kernel
theorem dX3_isChanged_95 : decode cX3_isChanged 95 = .ok (.bipush 20, 2) := by decide +kernel
theorem dX3_isChanged_97 : decode cX3_isChanged 97 = .ok (.iload_n 2, 1) := by decide +kernel
theorem dX3_isChanged_98 : decode cX3_isChanged 98 = .ok (.imul, 1) := by decide +kernel
theorem dX3_isChanged_99 : decode cX3_isChanged 99 = .ok (.iload 5, 2) := by decide +kernel
theorem dX3_isChanged_101 : decode cX3_isChanged 101 = .ok (.iadd, 1) := by decide +kernel
theorem dX3_isChanged_102 : decode cX3_isChanged 102 = .ok (.iaload, 1) := by decide +kernel
theorem dX3_isChanged_103 : decode cX3_isChanged 103 = .ok (.if_icmp .eq 7, 3) := by decide +kernel
theorem dX3_isChanged_106 : decode cX3_isChanged 106 = .ok (.iconst 1, 1) := by decide +kernel
theorem dX3_isChanged_107 : decode cX3_isChanged 107 = .ok (.goto 4, 3) := by decide +kernel
theorem dX3_isChanged_110 : decode cX3_isChanged 110 = .ok (.iconst 0, 1) := by decide +kernel
theorem dX3_isChanged_111 : decode cX3_isChanged 111 = .ok (.istore 4, 2) := by decide +kernel
theorem dX3_isChanged_113 : decode cX3_isChanged 113 = .ok (.iinc 5 1, 3) := by decide +kernel
theorem dX3_isChanged_116 : decode cX3_isChanged 116 = .ok (.goto (-53), 3) := by decide +kernel
theorem dX3_isChanged_119 : decode cX3_isChanged 119 = .ok (.iload 4, 2) := by decide +kernel
theorem dX3_isChanged_121 : decode cX3_isChanged 121 = .ok (.ireturn, 1) := by decide +kernel
set_option maxRecDepth 20000 in
theorem ggX3_changed_X3_isSlot : GoodIn wsX3_changed wsX3_isSlot := goodIn_r _ [6, 7, 8, 9, 5, 10] rfl (by decide +kernel)
set_option maxRecDepth 20000 in
theorem gX3_changed_X3_isSlot : GoodIn wsX3_changed (va_wsS RX3 84 yX3_isSlot wsX3_isSlot) := goodIn_app (goodIn_r _ [3, 4, 5] rfl (by decide +kernel)) ggX3_changed_X3_isSlot
set_option maxRecDepth 20000 in
theorem ggX3_changed_X3_has : GoodIn wsX3_changed wsX3_has := goodIn_r _ [13] rfl (by decide +kernel)
set_option maxRecDepth 20000 in
theorem gX3_changed_X3_has : GoodIn wsX3_changed (va_wsS RX3 78 yX3_has wsX3_has) := goodIn_app (goodIn_r _ [11, 12, 5] rfl (by decide +kernel)) ggX3_changed_X3_has
set_option maxRecDepth 20000 in
theorem ggX3_changed_X3_isChanged : GoodIn wsX3_changed wsX3_isChanged := goodIn_r _ [17, 18, 19, 20, 21, 22, 23, 24, 25, 26, 27, 28, 29, 30, 31, 32, 33, 34, 35, 36, 37, 38, 39, 40, 41, 42, 43] rfl (by decide +kernel)
set_option maxRecDepth 20000 in
theorem gX3_changed_X3_isChanged : GoodIn wsX3_changed (wsV RX3 191 RX3 yX3_isChanged wsX3_isChanged) := goodIn_app (goodIn_r _ [14, 15, 16, 5] rfl (by decide +kernel)) ggX3_changed_X3_isChanged
theorem dX3_changed_0 : decode cX3_changed 0 = .ok (.iload_n 1, 1) := by decide +kernel
theorem dX3_changed_1 : decode cX3_changed 1 = .ok (.invokestatic 84, 3) := by decide +kernel
theorem dX3_changed_4 : decode cX3_changed 4 = .ok (.ifCond .eq 14, 3) := by decide +kernel
theorem dX3_changed_7 : decode cX3_changed 7 = .ok (.iload_n 2, 1) := by decide +kernel
theorem dX3_changed_8 : decode cX3_changed 8 = .ok (.invokestatic 84, 3) := by decide +kernel
theorem dX3_changed_11 : decode cX3_changed 11 = .ok (.ifCond .eq 7, 3) := by decide +kernel
theorem dX3_changed_14 : decode cX3_changed 14 = .ok (.iload_n 3, 1) := by decide +kernel
theorem dX3_changed_15 : decode cX3_changed 15 = .ok (.ifCond .ge 5, 3) := by decide +kernel
theorem dX3_changed_18 : decode cX3_changed 18 = .ok (.iconst (-1), 1) := by decide +kernel
theorem dX3_changed_19 : decode cX3_changed 19 = .ok (.ireturn, 1) := by decide +kernel
theorem dX3_changed_20 : decode cX3_changed 20 = .ok (.aload_n 0, 1) := by decide +kernel
theorem dX3_changed_21 : decode cX3_changed 21 = .ok (.getfield 7, 3) := by decide +kernel
theorem dX3_changed_24 : decode cX3_changed 24 = .ok (.iload_n 1, 1) := by decide +kernel
theorem dX3_changed_25 : decode cX3_changed 25 = .ok (.iaload, 1) := by decide +kernel
theorem dX3_changed_26 : decode cX3_changed 26 = .ok (.istore 4, 2) := by decide +kernel
theorem dX3_changed_28 : decode cX3_changed 28 = .ok (.aload_n 0, 1) := by decide +kernel
theorem dX3_changed_29 : decode cX3_changed 29 = .ok (.getfield 7, 3) := by decide +kernel
theorem dX3_changed_32 : decode cX3_changed 32 = .ok (.iload_n 2, 1) := by decide +kernel
theorem dX3_changed_33 : decode cX3_changed 33 = .ok (.iaload, 1) := by decide +kernel
theorem dX3_changed_34 : decode cX3_changed 34 = .ok (.istore 5, 2) := by decide +kernel
theorem dX3_changed_36 : decode cX3_changed 36 = .ok (.iload 4, 2) := by decide +kernel
theorem dX3_changed_38 : decode cX3_changed 38 = .ok (.iconst (-1), 1) := by decide +kernel
theorem dX3_changed_39 : decode cX3_changed 39 = .ok (.if_icmp .eq 9, 3) := by decide +kernel
theorem dX3_changed_42 : decode cX3_changed 42 = .ok (.iload 5, 2) := by decide +kernel
theorem dX3_changed_44 : decode cX3_changed 44 = .ok (.iconst (-1), 1) := by decide +kernel
theorem dX3_changed_45 : decode cX3_changed 45 = .ok (.if_icmp .ne 6, 3) := by decide +kernel
theorem dX3_changed_48 : decode cX3_changed 48 = .ok (.bipush (-11), 2) := by decide +kernel
theorem dX3_changed_50 : decode cX3_changed 50 = .ok (.ireturn, 1) := by decide +kernel
theorem dX3_changed_51 : decode cX3_changed 51 = .ok (.aload_n 0, 1) := by decide +kernel
theorem dX3_changed_52 : decode cX3_changed 52 = .ok (.getfield 13, 3) := by decide +kernel
theorem dX3_changed_55 : decode cX3_changed 55 = .ok (.iload 4, 2) := by decide +kernel
theorem dX3_changed_57 : decode cX3_changed 57 = .ok (.iaload, 1) := by decide +kernel
theorem dX3_changed_58 : decode cX3_changed 58 = .ok (.aload_n 0, 1) := by decide +kernel
theorem dX3_changed_59 : decode cX3_changed 59 = .ok (.getfield 13, 3) := by decide +kernel
theorem dX3_changed_62 : decode cX3_changed 62 = .ok (.iload 5, 2) := by decide +kernel
theorem dX3_changed_64 : decode cX3_changed 64 = .ok (.iaload, 1) := by decide +kernel
theorem dX3_changed_65 : decode cX3_changed 65 = .ok (.if_icmp .eq 6, 3) := by decide +kernel
theorem dX3_changed_68 : decode cX3_changed 68 = .ok (.bipush (-14), 2) := by decide +kernel
theorem dX3_changed_70 : decode cX3_changed 70 = .ok (.ireturn, 1) := by decide +kernel
theorem dX3_changed_71 : decode cX3_changed 71 = .ok (.iload_n 3, 1) := by decide +kernel
theorem dX3_changed_72 : decode cX3_changed 72 = .ok (.istore 6, 2) := by decide +kernel
theorem dX3_changed_74 : decode cX3_changed 74 = .ok (.iconst 0, 1) := by decide +kernel
theorem dX3_changed_75 : decode cX3_changed 75 = .ok (.istore 7, 2) := by decide +kernel
theorem dX3_changed_77 : decode cX3_changed 77 = .ok (.iload 7, 2) := by decide +kernel
theorem dX3_changed_79 : decode cX3_changed 79 = .ok (.bipush 17, 2) := by decide +kernel
theorem dX3_changed_81 : decode cX3_changed 81 = .ok (.if_icmp .ge 48, 3) := by decide +kernel
theorem dX3_changed_84 : decode cX3_changed 84 = .ok (.aload_n 0, 1) := by decide +kernel
theorem dX3_changed_85 : decode cX3_changed 85 = .ok (.getfield 13, 3) := by decide +kernel
theorem dX3_changed_88 : decode cX3_changed 88 = .ok (.iload 4, 2) := by decide +kernel
theorem dX3_changed_90 : decode cX3_changed 90 = .ok (.iaload, 1) := by decide +kernel
theorem dX3_changed_91 : decode cX3_changed 91 = .ok (.iload 7, 2) := by decide +kernel
theorem dX3_changed_93 : decode cX3_changed 93 = .ok (.invokestatic 78, 3) := by decide +kernel
theorem dX3_changed_96 : decode cX3_changed 96 = .ok (.ifCond .eq 27, 3) := by decide +kernel
theorem dX3_changed_99 : decode cX3_changed 99 = .ok (.aload_n 0, 1) := by decide +kernel
theorem dX3_changed_100 : decode cX3_changed 100 = .ok (.iload 4, 2) := by decide +kernel
theorem dX3_changed_102 : decode cX3_changed 102 = .ok (.iload 5, 2) := by decide +kernel
theorem dX3_changed_104 : decode cX3_changed 104 = .ok (.iload 7, 2) := by decide +kernel
theorem dX3_changed_106 : decode cX3_changed 106 = .ok (.invokevirtual 191, 3) := by decide +kernel
theorem dX3_changed_109 : decode cX3_changed 109 = .ok (.ifCond .eq 14, 3) := by decide +kernel
theorem dX3_changed_112 : decode cX3_changed 112 = .ok (.iload 6, 2) := by decide +kernel
theorem dX3_changed_114 : decode cX3_changed 114 = .ok (.ifCond .ne 6, 3) := by decide +kernel
theorem dX3_changed_117 : decode cX3_changed 117 = .ok (.iload 7, 2) := by decide +kernel
theorem dX3_changed_119 : decode cX3_changed 119 = .ok (.ireturn, 1) := by decide +kernel
theorem dX3_changed_120 : decode cX3_changed 120 = .ok (.iinc 6 (-1), 3) := by decide +kernel
theorem dX3_changed_123 : decode cX3_changed 123 = .ok (.iinc 7 1, 3) := by decide +kernel
theorem dX3_changed_126 : decode cX3_changed 126 = .ok (.goto (-49), 3) := by decide +kernel
theorem dX3_changed_129 : decode cX3_changed 129 = .ok (.bipush (-4), 2) := by decide +kernel
theorem dX3_changed_131 : decode cX3_changed 131 = .ok (.ireturn, 1) := by decide +kernel
