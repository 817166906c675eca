theorem dX3_call_0 : decode cX3_call 0 = .ok (.iload_n 1, 1) := by decide +kernel
theorem dX3_call_1 : decode cX3_call 1 = .ok (.invokestatic 84, 3) := by decide +kernel
theorem dX3_call_4 : decode cX3_call 4 = .ok (.ifCond .eq 15, 3) := by decide +kernel
theorem dX3_call_7 : decode cX3_call 7 = .ok (.iload_n 2, 1) := by decide +kernel
theorem dX3_call_8 : decode cX3_call 8 = .ok (.i2l, 1) := by decide +kernel
theorem dX3_call_9 : decode cX3_call 9 = .ok (.lconst 0, 1) := by decide +kernel
theorem dX3_call_10 : decode cX3_call 10 = .ok (.ldc2_w 87, 3) := by decide +kernel
theorem dX3_call_13 : decode cX3_call 13 = .ok (.invokestatic 70, 3) := by decide +kernel
theorem dX3_call_16 : decode cX3_call 16 = .ok (.ifCond .ne 5, 3) := by decide +kernel
theorem dX3_call_19 : decode cX3_call 19 = .ok (.iconst (-1), 1) := by decide +kernel
theorem dX3_call_20 : decode cX3_call 20 = .ok (.ireturn, 1) := by decide +kernel
theorem dX3_call_21 : decode cX3_call 21 = .ok (.aload_n 0, 1) := by decide +kernel
theorem dX3_call_22 : decode cX3_call 22 = .ok (.getfield 7, 3) := by decide +kernel
theorem dX3_call_25 : decode cX3_call 25 = .ok (.iload_n 1, 1) := by decide +kernel
theorem dX3_call_26 : decode cX3_call 26 = .ok (.iaload, 1) := by decide +kernel
theorem dX3_call_27 : decode cX3_call 27 = .ok (.istore_n 3, 1) := by decide +kernel
theorem dX3_call_28 : decode cX3_call 28 = .ok (.iload_n 3, 1) := by decide +kernel
theorem dX3_call_29 : decode cX3_call 29 = .ok (.iconst (-1), 1) := by decide +kernel
theorem dX3_call_30 : decode cX3_call 30 = .ok (.if_icmp .ne 6, 3) := by decide +kernel
theorem dX3_call_33 : decode cX3_call 33 = .ok (.bipush (-11), 2) := by decide +kernel
theorem dX3_call_35 : decode cX3_call 35 = .ok (.ireturn, 1) := by decide +kernel
theorem dX3_call_36 : decode cX3_call 36 = .ok (.aload_n 0, 1) := by decide +kernel
theorem dX3_call_37 : decode cX3_call 37 = .ok (.getfield 13, 3) := by decide +kernel
theorem dX3_call_40 : decode cX3_call 40 = .ok (.iload_n 3, 1) := by decide +kernel
theorem dX3_call_41 : decode cX3_call 41 = .ok (.iaload, 1) := by decide +kernel
theorem dX3_call_42 : decode cX3_call 42 = .ok (.iload_n 2, 1) := by decide +kernel
theorem dX3_call_43 : decode cX3_call 43 = .ok (.iconst 2, 1) := by decide +kernel
theorem dX3_call_44 : decode cX3_call 44 = .ok (.if_icmp .eq 8, 3) := by decide +kernel
theorem dX3_call_47 : decode cX3_call 47 = .ok (.iload_n 2, 1) := by decide +kernel
theorem dX3_call_48 : decode cX3_call 48 = .ok (.iconst 3, 1) := by decide +kernel
theorem dX3_call_49 : decode cX3_call 49 = .ok (.if_icmp .ne 7, 3) := by decide +kernel
theorem dX3_call_52 : decode cX3_call 52 = .ok (.iconst 5, 1) := by decide +kernel
theorem dX3_call_53 : decode cX3_call 53 = .ok (.goto 4, 3) := by decide +kernel
theorem dX3_call_56 : decode cX3_call 56 = .ok (.iconst 0, 1) := by decide +kernel
theorem dX3_call_57 : decode cX3_call 57 = .ok (.invokestatic 100, 3) := by decide +kernel
theorem dX3_call_60 : decode cX3_call 60 = .ok (.ifCond .ne 6, 3) := by decide +kernel
theorem dX3_call_63 : decode cX3_call 63 = .ok (.bipush (-14), 2) := by decide +kernel
theorem dX3_call_65 : decode cX3_call 65 = .ok (.ireturn, 1) := by decide +kernel
theorem dX3_call_66 : decode cX3_call 66 = .ok (.iload_n 2, 1) := by decide +kernel
theorem dX3_call_67 : decode cX3_call 67 = .ok (.tableswitch 72 0 3 #[29, 35, 60, 66], 29) := by decide +kernel
theorem dX3_call_96 : decode cX3_call 96 = .ok (.aload_n 0, 1) := by decide +kernel
theorem dX3_call_97 : decode cX3_call 97 = .ok (.iload_n 3, 1) := by decide +kernel
theorem dX3_call_98 : decode cX3_call 98 = .ok (.invokevirtual 144, 3) := by decide +kernel
theorem dX3_call_101 : decode cX3_call 101 = .ok (.ireturn, 1) := by decide +kernel
theorem dX3_call_102 : decode cX3_call 102 = .ok (.aload_n 0, 1) := by decide +kernel
theorem dX3_call_103 : decode cX3_call 103 = .ok (.getfield 17, 3) := by decide +kernel
theorem dX3_call_106 : decode cX3_call 106 = .ok (.bipush 17, 2) := by decide +kernel
theorem dX3_call_108 : decode cX3_call 108 = .ok (.iload_n 3, 1) := by decide +kernel
theorem dX3_call_109 : decode cX3_call 109 = .ok (.imul, 1) := by decide +kernel
theorem dX3_call_110 : decode cX3_call 110 = .ok (.iconst 1, 1) := by decide +kernel
theorem dX3_call_111 : decode cX3_call 111 = .ok (.iadd, 1) := by decide +kernel
theorem dX3_call_112 : decode cX3_call 112 = .ok (.laload, 1) := by decide +kernel
theorem dX3_call_113 : decode cX3_call 113 = .ok (.aload_n 0, 1) := by decide +kernel
theorem dX3_call_114 : decode cX3_call 114 = .ok (.getfield 17, 3) := by decide +kernel
theorem dX3_call_117 : decode cX3_call 117 = .ok (.bipush 17, 2) := by decide +kernel
theorem dX3_call_119 : decode cX3_call 119 = .ok (.iload_n 3, 1) := by decide +kernel
theorem dX3_call_120 : decode cX3_call 120 = .ok (.imul, 1) := by decide +kernel
theorem dX3_call_121 : decode cX3_call 121 = .ok (.iconst 2, 1) := by decide +kernel
theorem dX3_call_122 : decode cX3_call 122 = .ok (.iadd, 1) := by decide +kernel
theorem dX3_call_123 : decode cX3_call 123 = .ok (.laload, 1) := by decide +kernel
theorem dX3_call_124 : decode cX3_call 124 = .ok (.ladd, 1) := by decide +kernel
theorem dX3_call_125 : decode cX3_call 125 = .ok (.l2i, 1) := by decide +kernel
theorem dX3_call_126 : decode cX3_call 126 = .ok (.ireturn, 1) := by decide +kernel
theorem dX3_call_127 : decode cX3_call 127 = .ok (.aload_n 0, 1) := by decide +kernel
theorem dX3_call_128 : decode cX3_call 128 = .ok (.iload_n 3, 1) := by decide +kernel
theorem dX3_call_129 : decode cX3_call 129 = .ok (.invokevirtual 147, 3) := by decide +kernel
theorem dX3_call_132 : decode cX3_call 132 = .ok (.ireturn, 1) := by decide +kernel
theorem dX3_call_133 : decode cX3_call 133 = .ok (.aload_n 0, 1) := by decide +kernel
theorem dX3_call_134 : decode cX3_call 134 = .ok (.iload_n 3, 1) := by decide +kernel
theorem dX3_call_135 : decode cX3_call 135 = .ok (.invokevirtual 150, 3) := by decide +kernel
theorem dX3_call_138 : decode cX3_call 138 = .ok (.ireturn, 1) := by decide +kernel
theorem dX3_call_139 : decode cX3_call 139 = .ok (.aload_n 0, 1) := by decide +kernel
theorem dX3_call_140 : decode cX3_call 140 = .ok (.getfield 17, 3) := by decide +kernel
theorem dX3_call_143 : decode cX3_call 143 = .ok (.bipush 17, 2) := by decide +kernel
theorem dX3_call_145 : decode cX3_call 145 = .ok (.iload_n 3, 1) := by decide +kernel
theorem dX3_call_146 : decode cX3_call 146 = .ok (.imul, 1) := by decide +kernel
theorem dX3_call_147 : decode cX3_call 147 = .ok (.bipush 8, 2) := by decide +kernel
theorem dX3_call_149 : decode cX3_call 149 = .ok (.iadd, 1) := by decide +kernel
theorem dX3_call_150 : decode cX3_call 150 = .ok (.laload, 1) := by decide +kernel
theorem dX3_call_151 : decode cX3_call 151 = .ok (.l2i, 1) := by decide +kernel
theorem dX3_call_152 : decode cX3_call 152 = .ok (.istore 4, 2) := by decide +kernel
theorem dX3_call_154 : decode cX3_call 154 = .ok (.iload 4, 2) := by decide +kernel
theorem dX3_call_156 : decode cX3_call 156 = .ok (.iconst (-1), 1) := by decide +kernel
theorem dX3_call_157 : decode cX3_call 157 = .ok (.if_icmp .ne 8, 3) := by decide +kernel
theorem dX3_call_160 : decode cX3_call 160 = .ok (.bipush (-11), 2) := by decide +kernel
theorem dX3_call_162 : decode cX3_call 162 = .ok (.goto 9, 3) := by decide +kernel
theorem dX3_call_165 : decode cX3_call 165 = .ok (.aload_n 0, 1) := by decide +kernel
theorem dX3_call_166 : decode cX3_call 166 = .ok (.iload 4, 2) := by decide +kernel
theorem dX3_call_168 : decode cX3_call 168 = .ok (.invokevirtual 144, 3) := by decide +kernel
theorem dX3_call_171 : decode cX3_call 171 = .ok (.ireturn, 1) := by decide +kernel
set_option maxRecDepth 20000 in
theorem ggX3_raise_X3_isSlot : GoodIn wsX3_raise wsX3_isSlot := goodIn_r _ [7, 8, 9, 10, 6, 11] (by decide +kernel) (by decide +kernel)
set_option maxRecDepth 20000 in
theorem gX3_raise_X3_isSlot : GoodIn wsX3_raise (va_wsS RX3 84 yX3_isSlot wsX3_isSlot) := goodIn_app (goodIn_of _ (by decide +kernel)) ggX3_raise_X3_isSlot
theorem dX3_raise_0 : decode cX3_raise 0 = .ok (.iload_n 1, 1) := by decide +kernel
theorem dX3_raise_1 : decode cX3_raise 1 = .ok (.invokestatic 84, 3) := by decide +kernel
theorem dX3_raise_4 : decode cX3_raise 4 = .ok (.ifCond .ne 5, 3) := by decide +kernel
theorem dX3_raise_7 : decode cX3_raise 7 = .ok (.iconst (-1), 1) := by decide +kernel
theorem dX3_raise_8 : decode cX3_raise 8 = .ok (.ireturn, 1) := by decide +kernel
theorem dX3_raise_9 : decode cX3_raise 9 = .ok (.aload_n 0, 1) := by decide +kernel
theorem dX3_raise_10 : decode cX3_raise 10 = .ok (.getfield 7, 3) := by decide +kernel
theorem dX3_raise_13 : decode cX3_raise 13 = .ok (.iload_n 1, 1) := by decide +kernel
theorem dX3_raise_14 : decode cX3_raise 14 = .ok (.iaload, 1) := by decide +kernel
theorem dX3_raise_15 : decode cX3_raise 15 = .ok (.istore_n 2, 1) := by decide +kernel
theorem dX3_raise_16 : decode cX3_raise 16 = .ok (.iload_n 2, 1) := by decide +kernel
theorem dX3_raise_17 : decode cX3_raise 17 = .ok (.iconst (-1), 1) := by decide +kernel
theorem dX3_raise_18 : decode cX3_raise 18 = .ok (.if_icmp .ne 8, 3) := by decide +kernel
theorem dX3_raise_21 : decode cX3_raise 21 = .ok (.bipush (-11), 2) := by decide +kernel
theorem dX3_raise_23 : decode cX3_raise 23 = .ok (.goto 31, 3) := by decide +kernel
theorem dX3_raise_26 : decode cX3_raise 26 = .ok (.aload_n 0, 1) := by decide +kernel
theorem dX3_raise_27 : decode cX3_raise 27 = .ok (.getfield 13, 3) := by decide +kernel
theorem dX3_raise_30 : decode cX3_raise 30 = .ok (.iload_n 2, 1) := by decide +kernel
theorem dX3_raise_31 : decode cX3_raise 31 = .ok (.iaload, 1) := by decide +kernel
theorem dX3_raise_32 : decode cX3_raise 32 = .ok (.iconst 4, 1) := by decide +kernel
theorem dX3_raise_33 : decode cX3_raise 33 = .ok (.if_icmp .eq 8, 3) := by decide +kernel
theorem dX3_raise_36 : decode cX3_raise 36 = .ok (.bipush (-14), 2) := by decide +kernel
theorem dX3_raise_38 : decode cX3_raise 38 = .ok (.goto 16, 3) := by decide +kernel
theorem dX3_raise_41 : decode cX3_raise 41 = .ok (.aload_n 0, 1) := by decide +kernel
theorem dX3_raise_42 : decode cX3_raise 42 = .ok (.getfield 17, 3) := by decide +kernel
theorem dX3_raise_45 : decode cX3_raise 45 = .ok (.bipush 17, 2) := by decide +kernel
theorem dX3_raise_47 : decode cX3_raise 47 = .ok (.iload_n 2, 1) := by decide +kernel
theorem dX3_raise_48 : decode cX3_raise 48 = .ok (.imul, 1) := by decide +kernel
theorem dX3_raise_49 : decode cX3_raise 49 = .ok (.bipush 16, 2) := by decide +kernel
theorem dX3_raise_51 : decode cX3_raise 51 = .ok (.iadd, 1) := by decide +kernel
theorem dX3_raise_52 : decode cX3_raise 52 = .ok (.laload, 1) := by decide +kernel
theorem dX3_raise_53 : decode cX3_raise 53 = .ok (.l2i, 1) := by decide +kernel
theorem dX3_raise_54 : decode cX3_raise 54 = .ok (.ireturn, 1) := by decide +kernel
set_option maxRecDepth 20000 in
theorem ggX3_passes_X3_isSlot : GoodIn wsX3_passes wsX3_isSlot := goodIn_r _ [6, 7, 8, 9, 5, 10] (by decide +kernel) (by decide +kernel)
set_option maxRecDepth 20000 in
theorem gX3_passes_X3_isSlot : GoodIn wsX3_passes (va_wsS RX3 84 yX3_isSlot wsX3_isSlot) := goodIn_app (goodIn_of _ (by decide +kernel)) ggX3_passes_X3_isSlot
set_option maxRecDepth 20000 in
theorem ggX3_passes_X3_in : GoodIn wsX3_passes wsX3_in := goodIn_r _ [10] (by decide +kernel) (by decide +kernel)
set_option maxRecDepth 20000 in
theorem gX3_passes_X3_in : GoodIn wsX3_passes (va_wsS RX3 70 yX3_in wsX3_in) := goodIn_app (goodIn_of _ (by decide +kernel)) ggX3_passes_X3_in
set_option maxRecDepth 20000 in
theorem ggX3_passes_X3_raise : GoodIn wsX3_passes wsX3_raise := goodIn_r _ [14, 15, 16, 17, 3, 4, 5, 6, 7, 8, 9, 10, 18, 19, 20, 21, 22, 23, 24, 25, 26, 27, 28, 29, 30, 31, 32, 33, 34, 35, 36, 37, 38, 39, 40] (by decide +kernel) (by decide +kernel)
set_option maxRecDepth 20000 in
theorem gX3_passes_X3_raise : GoodIn wsX3_passes (wsV RX3 157 RX3 yX3_raise wsX3_raise) := goodIn_app (goodIn_of _ (by decide +kernel)) ggX3_passes_X3_raise
theorem dX3_passes_0 : decode cX3_passes 0 = .ok (.iload_n 1, 1) := by decide +kernel
theorem dX3_passes_1 : decode cX3_passes 1 = .ok (.invokestatic 84, 3) := by decide +kernel
theorem dX3_passes_4 : decode cX3_passes 4 = .ok (.ifCond .eq 15, 3) := by decide +kernel
theorem dX3_passes_7 : decode cX3_passes 7 = .ok (.iload_n 2, 1) := by decide +kernel
theorem dX3_passes_8 : decode cX3_passes 8 = .ok (.i2l, 1) := by decide +kernel
theorem dX3_passes_9 : decode cX3_passes 9 = .ok (.lconst 1, 1) := by decide +kernel
theorem dX3_passes_10 : decode cX3_passes 10 = .ok (.ldc2_w 105, 3) := by decide +kernel
theorem dX3_passes_13 : decode cX3_passes 13 = .ok (.invokestatic 70, 3) := by decide +kernel
theorem dX3_passes_16 : decode cX3_passes 16 = .ok (.ifCond .ne 5, 3) := by decide +kernel
theorem dX3_passes_19 : decode cX3_passes 19 = .ok (.iconst (-1), 1) := by decide +kernel
theorem dX3_passes_20 : decode cX3_passes 20 = .ok (.ireturn, 1) := by decide +kernel
theorem dX3_passes_21 : decode cX3_passes 21 = .ok (.aload_n 0, 1) := by decide +kernel
theorem dX3_passes_22 : decode cX3_passes 22 = .ok (.iload_n 2, 1) := by decide +kernel
theorem dX3_passes_23 : decode cX3_passes 23 = .ok (.putfield 153, 3) := by decide +kernel
theorem dX3_passes_26 : decode cX3_passes 26 = .ok (.aload_n 0, 1) := by decide +kernel
theorem dX3_passes_27 : decode cX3_passes 27 = .ok (.iload_n 1, 1) := by decide +kernel
theorem dX3_passes_28 : decode cX3_passes 28 = .ok (.invokevirtual 157, 3) := by decide +kernel
theorem dX3_passes_31 : decode cX3_passes 31 = .ok (.ireturn, 1) := by decide +kernel
theorem dX3_passed_0 : decode cX3_passed 0 = .ok (.aload_n 0, 1) := by decide +kernel
theorem dX3_passed_1 : decode cX3_passed 1 = .ok (.getfield 153, 3) := by decide +kernel
theorem dX3_passed_4 : decode cX3_passed 4 = .ok (.ireturn, 1) := by decide +kernel
theorem dX3_tell_0 : decode cX3_tell 0 = .ok (.aload_n 0, 1) := by decide +kernel
theorem dX3_tell_1 : decode cX3_tell 1 = .ok (.getfield 160, 3) := by decide +kernel
theorem dX3_tell_4 : decode cX3_tell 4 = .ok (.sipush 300, 3) := by decide +kernel
theorem dX3_tell_7 : decode cX3_tell 7 = .ok (.if_icmp .ne 9, 3) := by decide +kernel
theorem dX3_tell_10 : decode cX3_tell 10 = .ok (.aload_n 0, 1) := by decide +kernel
theorem dX3_tell_11 : decode cX3_tell 11 = .ok (.iconst 0, 1) := by decide +kernel
theorem dX3_tell_12 : decode cX3_tell 12 = .ok (.putfield 163, 3) := by decide +kernel
theorem dX3_tell_15 : decode cX3_tell 15 = .ok (.return_, 1) := by decide +kernel
theorem dX3_tell_16 : decode cX3_tell 16 = .ok (.aload_n 0, 1) := by decide +kernel
theorem dX3_tell_17 : decode cX3_tell 17 = .ok (.getfield 47, 3) := by decide +kernel
theorem dX3_tell_20 : decode cX3_tell 20 = .ok (.aload_n 0, 1) := by decide +kernel
theorem dX3_tell_21 : decode cX3_tell 21 = .ok (.getfield 160, 3) := by decide +kernel
theorem dX3_tell_24 : decode cX3_tell 24 = .ok (.iload_n 1, 1) := by decide +kernel
theorem dX3_tell_25 : decode cX3_tell 25 = .ok (.iastore, 1) := by decide +kernel
theorem dX3_tell_26 : decode cX3_tell 26 = .ok (.aload_n 0, 1) := by decide +kernel
theorem dX3_tell_27 : decode cX3_tell 27 = .ok (.getfield 50, 3) := by decide +kernel
theorem dX3_tell_30 : decode cX3_tell 30 = .ok (.aload_n 0, 1) := by decide +kernel
theorem dX3_tell_31 : decode cX3_tell 31 = .ok (.getfield 160, 3) := by decide +kernel
theorem dX3_tell_34 : decode cX3_tell 34 = .ok (.iload_n 2, 1) := by decide +kernel
theorem dX3_tell_35 : decode cX3_tell 35 = .ok (.iastore, 1) := by decide +kernel
theorem dX3_tell_36 : decode cX3_tell 36 = .ok (.aload_n 0, 1) := by decide +kernel
theorem dX3_tell_37 : decode cX3_tell 37 = .ok (.getfield 53, 3) := by decide +kernel
theorem dX3_tell_40 : decode cX3_tell 40 = .ok (.aload_n 0, 1) := by decide +kernel
theorem dX3_tell_41 : decode cX3_tell 41 = .ok (.getfield 160, 3) := by decide +kernel
theorem dX3_tell_44 : decode cX3_tell 44 = .ok (.lload_n 3, 1) := by decide +kernel
theorem dX3_tell_45 : decode cX3_tell 45 = .ok (.lastore, 1) := by decide +kernel
theorem dX3_tell_46 : decode cX3_tell 46 = .ok (.aload_n 0, 1) := by decide +kernel
theorem dX3_tell_47 : decode cX3_tell 47 = .ok (.dup, 1) := by decide +kernel
theorem dX3_tell_48 : decode cX3_tell 48 = .ok (.getfield 160, 3) := by decide +kernel
theorem dX3_tell_51 : decode cX3_tell 51 = .ok (.iconst 1, 1) := by decide +kernel
theorem dX3_tell_52 : decode cX3_tell 52 = .ok (.iadd, 1) := by decide +kernel
theorem dX3_tell_53 : decode cX3_tell 53 = .ok (.putfield 160, 3) := by decide +kernel
theorem dX3_tell_56 : decode cX3_tell 56 = .ok (.return_, 1) := by decide +kernel
theorem dX3_numberOf_0 : decode cX3_numberOf 0 = .ok (.iconst 0, 1) := by decide +kernel
theorem dX3_numberOf_1 : decode cX3_numberOf 1 = .ok (.istore_n 2, 1) := by decide +kernel
theorem dX3_numberOf_2 : decode cX3_numberOf 2 = .ok (.iload_n 2, 1) := by decide +kernel
theorem dX3_numberOf_3 : decode cX3_numberOf 3 = .ok (.aload_n 0, 1) := by decide +kernel
theorem dX3_numberOf_4 : decode cX3_numberOf 4 = .ok (.getfield 167, 3) := by decide +kernel
theorem dX3_numberOf_7 : decode cX3_numberOf 7 = .ok (.if_icmp .ge 21, 3) := by decide +kernel
theorem dX3_numberOf_10 : decode cX3_numberOf 10 = .ok (.aload_n 0, 1) := by decide +kernel
theorem dX3_numberOf_11 : decode cX3_numberOf 11 = .ok (.getfield 44, 3) := by decide +kernel
theorem dX3_numberOf_14 : decode cX3_numberOf 14 = .ok (.iload_n 2, 1) := by decide +kernel
theorem dX3_numberOf_15 : decode cX3_numberOf 15 = .ok (.iaload, 1) := by decide +kernel
theorem dX3_numberOf_16 : decode cX3_numberOf 16 = .ok (.iload_n 1, 1) := by decide +kernel
theorem dX3_numberOf_17 : decode cX3_numberOf 17 = .ok (.if_icmp .ne 5, 3) := by decide +kernel
theorem dX3_numberOf_20 : decode cX3_numberOf 20 = .ok (.iload_n 2, 1) := by decide +kernel
theorem dX3_numberOf_21 : decode cX3_numberOf 21 = .ok (.ireturn, 1) := by decide +kernel
theorem dX3_numberOf_22 : decode cX3_numberOf 22 = .ok (.iinc 2 1, 3) := by decide +kernel
theorem dX3_numberOf_25 : decode cX3_numberOf 25 = .ok (.goto (-23), 3) := by decide +kernel
theorem dX3_numberOf_28 : decode cX3_numberOf 28 = .ok (.bipush (-4), 2) := by decide +kernel
theorem dX3_numberOf_30 : decode cX3_numberOf 30 = .ok (.ireturn, 1) := by decide +kernel
set_option maxRecDepth 20000 in
theorem ggX3_find_X3_isLink : GoodIn wsX3_find wsX3_isLink := goodIn_r _ [10] (by decide +kernel) (by decide +kernel)
set_option maxRecDepth 20000 in
theorem gX3_find_X3_isLink : GoodIn wsX3_find (va_wsS RX3 74 yX3_isLink wsX3_isLink) := goodIn_app (goodIn_of _ (by decide +kernel)) ggX3_find_X3_isLink
set_option maxRecDepth 20000 in
theorem ggX3_find_X3_has : GoodIn wsX3_find wsX3_has := goodIn_r _ [13] (by decide +kernel) (by decide +kernel)
set_option maxRecDepth 20000 in
theorem gX3_find_X3_has : GoodIn wsX3_find (va_wsS RX3 78 yX3_has wsX3_has) := goodIn_app (goodIn_of _ (by decide +kernel)) ggX3_find_X3_has
set_option maxRecDepth 20000 in
theorem ggX3_find_X3_numberOf : GoodIn wsX3_find wsX3_numberOf := goodIn_r _ [17, 1, 2, 32, 33, 34, 35, 36, 37, 38, 39, 40, 41, 42, 43, 44, 45, 46, 47, 48, 49, 50, 51, 52, 53, 54] (by decide +kernel) (by decide +kernel)
set_option maxRecDepth 20000 in
theorem gX3_find_X3_numberOf : GoodIn wsX3_find (wsV RX3 170 RX3 yX3_numberOf wsX3_numberOf) := goodIn_app (goodIn_of _ (by decide +kernel)) ggX3_find_X3_numberOf
set_option maxRecDepth 20000 in
theorem ggX3_find_X3_tellObject : GoodIn wsX3_find wsX3_tellObject := goodIn_r _ [21, 5, 6, 22, 23, 24, 25, 26, 27, 9, 28, 3, 4, 29, 30, 31, 11, 12, 13, 7, 8, 10, 14, 15, 16, 17, 1, 2, 32, 33, 34, 35, 36, 37, 38, 39, 40, 41, 42, 43, 44, 45, 46, 47, 48, 49, 50, 51, 52, 53, 54] (by decide +kernel) (by decide +kernel)
set_option maxRecDepth 20000 in
theorem gX3_find_X3_tellObject : GoodIn wsX3_find (wsV RX3 173 RX3 yX3_tellObject wsX3_tellObject) := goodIn_app (goodIn_of _ (by decide +kernel)) ggX3_find_X3_tellObject
theorem dX3_find_0 : decode cX3_find 0 = .ok (.aload_n 0, 1) := by decide +kernel
theorem dX3_find_1 : decode cX3_find 1 = .ok (.iconst 1, 1) := by decide +kernel
theorem dX3_find_2 : decode cX3_find 2 = .ok (.putfield 167, 3) := by decide +kernel
theorem dX3_find_5 : decode cX3_find 5 = .ok (.aload_n 0, 1) := by decide +kernel
theorem dX3_find_6 : decode cX3_find 6 = .ok (.getfield 44, 3) := by decide +kernel
theorem dX3_find_9 : decode cX3_find 9 = .ok (.iconst 0, 1) := by decide +kernel
theorem dX3_find_10 : decode cX3_find 10 = .ok (.iload_n 1, 1) := by decide +kernel
theorem dX3_find_11 : decode cX3_find 11 = .ok (.iastore, 1) := by decide +kernel
theorem dX3_find_12 : decode cX3_find 12 = .ok (.aload_n 0, 1) := by decide +kernel
theorem dX3_find_13 : decode cX3_find 13 = .ok (.iconst 0, 1) := by decide +kernel
theorem dX3_find_14 : decode cX3_find 14 = .ok (.putfield 160, 3) := by decide +kernel
theorem dX3_find_17 : decode cX3_find 17 = .ok (.aload_n 0, 1) := by decide +kernel
theorem dX3_find_18 : decode cX3_find 18 = .ok (.iconst 1, 1) := by decide +kernel
theorem dX3_find_19 : decode cX3_find 19 = .ok (.putfield 163, 3) := by decide +kernel
theorem dX3_find_22 : decode cX3_find 22 = .ok (.iconst 0, 1) := by decide +kernel
theorem dX3_find_23 : decode cX3_find 23 = .ok (.istore_n 2, 1) := by decide +kernel
theorem dX3_find_24 : decode cX3_find 24 = .ok (.iload_n 2, 1) := by decide +kernel
theorem dX3_find_25 : decode cX3_find 25 = .ok (.aload_n 0, 1) := by decide +kernel
theorem dX3_find_26 : decode cX3_find 26 = .ok (.getfield 167, 3) := by decide +kernel
theorem dX3_find_29 : decode cX3_find 29 = .ok (.if_icmp .ge 171, 3) := by decide +kernel
theorem dX3_find_32 : decode cX3_find 32 = .ok (.aload_n 0, 1) := by decide +kernel
theorem dX3_find_33 : decode cX3_find 33 = .ok (.getfield 163, 3) := by decide +kernel
theorem dX3_find_36 : decode cX3_find 36 = .ok (.ifCond .eq 164, 3) := by decide +kernel
theorem dX3_find_39 : decode cX3_find 39 = .ok (.aload_n 0, 1) := by decide +kernel
theorem dX3_find_40 : decode cX3_find 40 = .ok (.getfield 44, 3) := by decide +kernel
theorem dX3_find_43 : decode cX3_find 43 = .ok (.iload_n 2, 1) := by decide +kernel
theorem dX3_find_44 : decode cX3_find 44 = .ok (.iaload, 1) := by decide +kernel
theorem dX3_find_45 : decode cX3_find 45 = .ok (.istore_n 3, 1) := by decide +kernel
theorem dX3_find_46 : decode cX3_find 46 = .ok (.bipush 8, 2) := by decide +kernel
theorem dX3_find_48 : decode cX3_find 48 = .ok (.istore 4, 2) := by decide +kernel
theorem dX3_find_50 : decode cX3_find 50 = .ok (.iload 4, 2) := by decide +kernel
theorem dX3_find_52 : decode cX3_find 52 = .ok (.bipush 16, 2) := by decide +kernel
theorem dX3_find_54 : decode cX3_find 54 = .ok (.if_icmp .ge 140, 3) := by decide +kernel
theorem dX3_find_57 : decode cX3_find 57 = .ok (.iload 4, 2) := by decide +kernel
theorem dX3_find_59 : decode cX3_find 59 = .ok (.invokestatic 74, 3) := by decide +kernel
theorem dX3_find_62 : decode cX3_find 62 = .ok (.ifCond .eq 33, 3) := by decide +kernel
theorem dX3_find_65 : decode cX3_find 65 = .ok (.aload_n 0, 1) := by decide +kernel
theorem dX3_find_66 : decode cX3_find 66 = .ok (.getfield 13, 3) := by decide +kernel
theorem dX3_find_69 : decode cX3_find 69 = .ok (.iload_n 3, 1) := by decide +kernel
theorem dX3_find_70 : decode cX3_find 70 = .ok (.iaload, 1) := by decide +kernel
theorem dX3_find_71 : decode cX3_find 71 = .ok (.iload 4, 2) := by decide +kernel
theorem dX3_find_73 : decode cX3_find 73 = .ok (.invokestatic 78, 3) := by decide +kernel
theorem dX3_find_76 : decode cX3_find 76 = .ok (.ifCond .eq 19, 3) := by decide +kernel
theorem dX3_find_79 : decode cX3_find 79 = .ok (.aload_n 0, 1) := by decide +kernel
theorem dX3_find_80 : decode cX3_find 80 = .ok (.getfield 17, 3) := by decide +kernel
theorem dX3_find_83 : decode cX3_find 83 = .ok (.bipush 17, 2) := by decide +kernel
theorem dX3_find_85 : decode cX3_find 85 = .ok (.iload_n 3, 1) := by decide +kernel
theorem dX3_find_86 : decode cX3_find 86 = .ok (.imul, 1) := by decide +kernel
theorem dX3_find_87 : decode cX3_find 87 = .ok (.iload 4, 2) := by decide +kernel
theorem dX3_find_89 : decode cX3_find 89 = .ok (.iadd, 1) := by decide +kernel
theorem dX3_find_90 : decode cX3_find 90 = .ok (.laload, 1) := by decide +kernel
theorem dX3_find_91 : decode cX3_find 91 = .ok (.l2i, 1) := by decide +kernel
theorem dX3_find_92 : decode cX3_find 92 = .ok (.goto 4, 3) := by decide +kernel
theorem dX3_find_95 : decode cX3_find 95 = .ok (.iconst (-1), 1) := by decide +kernel
theorem dX3_find_96 : decode cX3_find 96 = .ok (.istore 5, 2) := by decide +kernel
theorem dX3_find_98 : decode cX3_find 98 = .ok (.iload 5, 2) := by decide +kernel
theorem dX3_find_100 : decode cX3_find 100 = .ok (.iconst (-1), 1) := by decide +kernel
theorem dX3_find_101 : decode cX3_find 101 = .ok (.if_icmp .eq 87, 3) := by decide +kernel
theorem dX3_find_104 : decode cX3_find 104 = .ok (.aload_n 0, 1) := by decide +kernel
theorem dX3_find_105 : decode cX3_find 105 = .ok (.iload 5, 2) := by decide +kernel
theorem dX3_find_107 : decode cX3_find 107 = .ok (.invokevirtual 170, 3) := by decide +kernel
theorem dX3_find_110 : decode cX3_find 110 = .ok (.bipush (-4), 2) := by decide +kernel
theorem dX3_find_112 : decode cX3_find 112 = .ok (.if_icmp .ne 76, 3) := by decide +kernel
theorem dX3_find_115 : decode cX3_find 115 = .ok (.aload_n 0, 1) := by decide +kernel
theorem dX3_find_116 : decode cX3_find 116 = .ok (.aload_n 0, 1) := by decide +kernel
theorem dX3_find_117 : decode cX3_find 117 = .ok (.getfield 163, 3) := by decide +kernel
theorem dX3_find_120 : decode cX3_find 120 = .ok (.ifCond .eq 16, 3) := by decide +kernel
theorem dX3_find_123 : decode cX3_find 123 = .ok (.aload_n 0, 1) := by decide +kernel
theorem dX3_find_124 : decode cX3_find 124 = .ok (.getfield 167, 3) := by decide +kernel
theorem dX3_find_127 : decode cX3_find 127 = .ok (.bipush 24, 2) := by decide +kernel
theorem dX3_find_129 : decode cX3_find 129 = .ok (.if_icmp .ge 7, 3) := by decide +kernel
theorem dX3_find_132 : decode cX3_find 132 = .ok (.iconst 1, 1) := by decide +kernel
theorem dX3_find_133 : decode cX3_find 133 = .ok (.goto 4, 3) := by decide +kernel
theorem dX3_find_136 : decode cX3_find 136 = .ok (.iconst 0, 1) := by decide +kernel
theorem dX3_find_137 : decode cX3_find 137 = .ok (.putfield 163, 3) := by decide +kernel
theorem dX3_find_140 : decode cX3_find 140 = .ok (.aload_n 0, 1) := by decide +kernel
theorem dX3_find_141 : decode cX3_find 141 = .ok (.getfield 44, 3) := by decide +kernel
theorem dX3_find_144 : decode cX3_find 144 = .ok (.aload_n 0, 1) := by decide +kernel
theorem dX3_find_145 : decode cX3_find 145 = .ok (.getfield 167, 3) := by decide +kernel
theorem dX3_find_148 : decode cX3_find 148 = .ok (.bipush 24, 2) := by decide +kernel
theorem dX3_find_150 : decode cX3_find 150 = .ok (.if_icmp .ge 10, 3) := by decide +kernel
theorem dX3_find_153 : decode cX3_find 153 = .ok (.aload_n 0, 1) := by decide +kernel
theorem dX3_find_154 : decode cX3_find 154 = .ok (.getfield 167, 3) := by decide +kernel
theorem dX3_find_157 : decode cX3_find 157 = .ok (.goto 5, 3) := by decide +kernel
theorem dX3_find_160 : decode cX3_find 160 = .ok (.bipush 24, 2) := by decide +kernel
theorem dX3_find_162 : decode cX3_find 162 = .ok (.iload 5, 2) := by decide +kernel
theorem dX3_find_164 : decode cX3_find 164 = .ok (.iastore, 1) := by decide +kernel
theorem dX3_find_165 : decode cX3_find 165 = .ok (.aload_n 0, 1) := by decide +kernel
theorem dX3_find_166 : decode cX3_find 166 = .ok (.dup, 1) := by decide +kernel
theorem dX3_find_167 : decode cX3_find 167 = .ok (.getfield 167, 3) := by decide +kernel
theorem dX3_find_170 : decode cX3_find 170 = .ok (.aload_n 0, 1) := by decide +kernel
theorem dX3_find_171 : decode cX3_find 171 = .ok (.getfield 167, 3) := by decide +kernel
theorem dX3_find_174 : decode cX3_find 174 = .ok (.bipush 24, 2) := by decide +kernel
theorem dX3_find_176 : decode cX3_find 176 = .ok (.if_icmp .ge 7, 3) := by decide +kernel
theorem dX3_find_179 : decode cX3_find 179 = .ok (.iconst 1, 1) := by decide +kernel
theorem dX3_find_180 : decode cX3_find 180 = .ok (.goto 4, 3) := by decide +kernel
theorem dX3_find_183 : decode cX3_find 183 = .ok (.iconst 0, 1) := by decide +kernel
theorem dX3_find_184 : decode cX3_find 184 = .ok (.iadd, 1) := by decide +kernel
theorem dX3_find_185 : decode cX3_find 185 = .ok (.putfield 167, 3) := by decide +kernel
theorem dX3_find_188 : decode cX3_find 188 = .ok (.iinc 4 1, 3) := by decide +kernel
theorem dX3_find_191 : decode cX3_find 191 = .ok (.goto (-141), 3) := by decide +kernel
theorem dX3_find_194 : decode cX3_find 194 = .ok (.iinc 2 1, 3) := by decide +kernel
theorem dX3_find_197 : decode cX3_find 197 = .ok (.goto (-173), 3) := by decide +kernel
theorem dX3_find_200 : decode cX3_find 200 = .ok (.iconst 0, 1) := by decide +kernel
theorem dX3_find_201 : decode cX3_find 201 = .ok (.istore_n 2, 1) := by decide +kernel
theorem dX3_find_202 : decode cX3_find 202 = .ok (.iload_n 2, 1) := by decide +kernel
theorem dX3_find_203 : decode cX3_find 203 = .ok (.aload_n 0, 1) := by decide +kernel
theorem dX3_find_204 : decode cX3_find 204 = .ok (.getfield 167, 3) := by decide +kernel
theorem dX3_find_207 : decode cX3_find 207 = .ok (.if_icmp .ge 27, 3) := by decide +kernel
theorem dX3_find_210 : decode cX3_find 210 = .ok (.aload_n 0, 1) := by decide +kernel
theorem dX3_find_211 : decode cX3_find 211 = .ok (.getfield 163, 3) := by decide +kernel
theorem dX3_find_214 : decode cX3_find 214 = .ok (.ifCond .eq 20, 3) := by decide +kernel
theorem dX3_find_217 : decode cX3_find 217 = .ok (.aload_n 0, 1) := by decide +kernel
theorem dX3_find_218 : decode cX3_find 218 = .ok (.iload_n 2, 1) := by decide +kernel
theorem dX3_find_219 : decode cX3_find 219 = .ok (.aload_n 0, 1) := by decide +kernel
theorem dX3_find_220 : decode cX3_find 220 = .ok (.getfield 44, 3) := by decide +kernel
theorem dX3_find_223 : decode cX3_find 223 = .ok (.iload_n 2, 1) := by decide +kernel
theorem dX3_find_224 : decode cX3_find 224 = .ok (.iaload, 1) := by decide +kernel
theorem dX3_find_225 : decode cX3_find 225 = .ok (.invokevirtual 173, 3) := by decide +kernel
theorem dX3_find_228 : decode cX3_find 228 = .ok (.iinc 2 1, 3) := by decide +kernel
theorem dX3_find_231 : decode cX3_find 231 = .ok (.goto (-29), 3) := by decide +kernel
theorem dX3_find_234 : decode cX3_find 234 = .ok (.aload_n 0, 1) := by decide +kernel
theorem dX3_find_235 : decode cX3_find 235 = .ok (.getfield 163, 3) := by decide +kernel
theorem dX3_find_238 : decode cX3_find 238 = .ok (.ireturn, 1) := by decide +kernel
set_option maxRecDepth 20000 in
theorem ggX3_tellObject_X3_tell : GoodIn wsX3_tellObject wsX3_tell := goodIn_r _ [10, 11, 12, 13, 14, 15, 28, 29, 30, 31, 32, 33, 34, 35, 36, 37, 38, 39, 40, 41, 42, 43, 44, 45, 46, 47, 48, 49, 50] (by decide +kernel) (by decide +kernel)
set_option maxRecDepth 20000 in
theorem gX3_tellObject_X3_tell : GoodIn wsX3_tellObject (wsV RX3 177 RX3 yX3_tell wsX3_tell) := goodIn_app (goodIn_of _ (by decide +kernel)) ggX3_tellObject_X3_tell
set_option maxRecDepth 20000 in
theorem ggX3_tellObject_X3_has : GoodIn wsX3_tellObject wsX3_has := goodIn_r _ [18] (by decide +kernel) (by decide +kernel)
set_option maxRecDepth 20000 in
theorem gX3_tellObject_X3_has : GoodIn wsX3_tellObject (va_wsS RX3 78 yX3_has wsX3_has) := goodIn_app (goodIn_of _ (by decide +kernel)) ggX3_tellObject_X3_has
set_option maxRecDepth 20000 in
theorem ggX3_tellObject_X3_isLink : GoodIn wsX3_tellObject wsX3_isLink := goodIn_r _ [21] (by decide +kernel) (by decide +kernel)
set_option maxRecDepth 20000 in
theorem gX3_tellObject_X3_isLink : GoodIn wsX3_tellObject (va_wsS RX3 74 yX3_isLink wsX3_isLink) := goodIn_app (goodIn_of _ (by decide +kernel)) ggX3_tellObject_X3_isLink
set_option maxRecDepth 20000 in
theorem ggX3_tellObject_X3_numberOf : GoodIn wsX3_tellObject wsX3_numberOf := goodIn_r _ [25, 26, 27, 28, 29, 30, 31, 32, 33, 34, 35, 36, 37, 38, 39, 40, 41, 42, 43, 44, 45, 46, 47, 48, 49, 50] (by decide +kernel) (by decide +kernel)
set_option maxRecDepth 20000 in
theorem gX3_tellObject_X3_numberOf : GoodIn wsX3_tellObject (wsV RX3 170 RX3 yX3_numberOf wsX3_numberOf) := goodIn_app (goodIn_of _ (by decide +kernel)) ggX3_tellObject_X3_numberOf
theorem dX3_tellObject_0 : decode cX3_tellObject 0 = .ok (.aload_n 0, 1) := by decide +kernel
theorem dX3_tellObject_1 : decode cX3_tellObject 1 = .ok (.iload_n 1, 1) := by decide +kernel
theorem dX3_tellObject_2 : decode cX3_tellObject 2 = .ok (.iconst (-1), 1) := by decide +kernel
theorem dX3_tellObject_3 : decode cX3_tellObject 3 = .ok (.aload_n 0, 1) := by decide +kernel
theorem dX3_tellObject_4 : decode cX3_tellObject 4 = .ok (.getfield 13, 3) := by decide +kernel
theorem dX3_tellObject_7 : decode cX3_tellObject 7 = .ok (.iload_n 2, 1) := by decide +kernel
theorem dX3_tellObject_8 : decode cX3_tellObject 8 = .ok (.iaload, 1) := by decide +kernel
theorem dX3_tellObject_9 : decode cX3_tellObject 9 = .ok (.i2l, 1) := by decide +kernel
theorem dX3_tellObject_10 : decode cX3_tellObject 10 = .ok (.invokevirtual 177, 3) := by decide +kernel
theorem dX3_tellObject_13 : decode cX3_tellObject 13 = .ok (.iconst 0, 1) := by decide +kernel
theorem dX3_tellObject_14 : decode cX3_tellObject 14 = .ok (.istore_n 3, 1) := by decide +kernel
theorem dX3_tellObject_15 : decode cX3_tellObject 15 = .ok (.iload_n 3, 1) := by decide +kernel
theorem dX3_tellObject_16 : decode cX3_tellObject 16 = .ok (.bipush 17, 2) := by decide +kernel
theorem dX3_tellObject_18 : decode cX3_tellObject 18 = .ok (.if_icmp .ge 162, 3) := by decide +kernel
theorem dX3_tellObject_21 : decode cX3_tellObject 21 = .ok (.aload_n 0, 1) := by decide +kernel
theorem dX3_tellObject_22 : decode cX3_tellObject 22 = .ok (.getfield 13, 3) := by decide +kernel
theorem dX3_tellObject_25 : decode cX3_tellObject 25 = .ok (.iload_n 2, 1) := by decide +kernel
theorem dX3_tellObject_26 : decode cX3_tellObject 26 = .ok (.iaload, 1) := by decide +kernel
theorem dX3_tellObject_27 : decode cX3_tellObject 27 = .ok (.iload_n 3, 1) := by decide +kernel
theorem dX3_tellObject_28 : decode cX3_tellObject 28 = .ok (.invokestatic 78, 3) := by decide +kernel
theorem dX3_tellObject_31 : decode cX3_tellObject 31 = .ok (.ifCond .ne 6, 3) := by decide +kernel
theorem dX3_tellObject_34 : decode cX3_tellObject 34 = .ok (.goto 140, 3) := by decide +kernel
theorem dX3_tellObject_37 : decode cX3_tellObject 37 = .ok (.aload_n 0, 1) := by decide +kernel
theorem dX3_tellObject_38 : decode cX3_tellObject 38 = .ok (.getfield 17, 3) := by decide +kernel
theorem dX3_tellObject_41 : decode cX3_tellObject 41 = .ok (.bipush 17, 2) := by decide +kernel
theorem dX3_tellObject_43 : decode cX3_tellObject 43 = .ok (.iload_n 2, 1) := by decide +kernel
theorem dX3_tellObject_44 : decode cX3_tellObject 44 = .ok (.imul, 1) := by decide +kernel
theorem dX3_tellObject_45 : decode cX3_tellObject 45 = .ok (.iload_n 3, 1) := by decide +kernel
theorem dX3_tellObject_46 : decode cX3_tellObject 46 = .ok (.iadd, 1) := by decide +kernel
theorem dX3_tellObject_47 : decode cX3_tellObject 47 = .ok (.laload, 1) := by decide +kernel
theorem dX3_tellObject_48 : decode cX3_tellObject 48 = .ok (.lstore 4, 2) := by decide +kernel
theorem dX3_tellObject_50 : decode cX3_tellObject 50 = .ok (.iload_n 3, 1) := by decide +kernel
theorem dX3_tellObject_51 : decode cX3_tellObject 51 = .ok (.bipush 9, 2) := by decide +kernel
theorem dX3_tellObject_53 : decode cX3_tellObject 53 = .ok (.if_icmp .ne 73, 3) := by decide +kernel
theorem dX3_tellObject_56 : decode cX3_tellObject 56 = .ok (.aload_n 0, 1) := by decide +kernel
theorem dX3_tellObject_57 : decode cX3_tellObject 57 = .ok (.getfield 21, 3) := by decide +kernel
theorem dX3_tellObject_60 : decode cX3_tellObject 60 = .ok (.iload_n 2, 1) := by decide +kernel
theorem dX3_tellObject_61 : decode cX3_tellObject 61 = .ok (.iaload, 1) := by decide +kernel
theorem dX3_tellObject_62 : decode cX3_tellObject 62 = .ok (.iconst (-1), 1) := by decide +kernel
theorem dX3_tellObject_63 : decode cX3_tellObject 63 = .ok (.if_icmp .eq 111, 3) := by decide +kernel
theorem dX3_tellObject_66 : decode cX3_tellObject 66 = .ok (.aload_n 0, 1) := by decide +kernel
theorem dX3_tellObject_67 : decode cX3_tellObject 67 = .ok (.iload_n 1, 1) := by decide +kernel
theorem dX3_tellObject_68 : decode cX3_tellObject 68 = .ok (.bipush 9, 2) := by decide +kernel
theorem dX3_tellObject_70 : decode cX3_tellObject 70 = .ok (.aload_n 0, 1) := by decide +kernel
theorem dX3_tellObject_71 : decode cX3_tellObject 71 = .ok (.getfield 21, 3) := by decide +kernel
theorem dX3_tellObject_74 : decode cX3_tellObject 74 = .ok (.iload_n 2, 1) := by decide +kernel
theorem dX3_tellObject_75 : decode cX3_tellObject 75 = .ok (.iaload, 1) := by decide +kernel
theorem dX3_tellObject_76 : decode cX3_tellObject 76 = .ok (.i2l, 1) := by decide +kernel
theorem dX3_tellObject_77 : decode cX3_tellObject 77 = .ok (.invokevirtual 177, 3) := by decide +kernel
theorem dX3_tellObject_80 : decode cX3_tellObject 80 = .ok (.iconst 0, 1) := by decide +kernel
theorem dX3_tellObject_81 : decode cX3_tellObject 81 = .ok (.istore 6, 2) := by decide +kernel
theorem dX3_tellObject_83 : decode cX3_tellObject 83 = .ok (.iload 6, 2) := by decide +kernel
theorem dX3_tellObject_85 : decode cX3_tellObject 85 = .ok (.aload_n 0, 1) := by decide +kernel
theorem dX3_tellObject_86 : decode cX3_tellObject 86 = .ok (.getfield 21, 3) := by decide +kernel
theorem dX3_tellObject_89 : decode cX3_tellObject 89 = .ok (.iload_n 2, 1) := by decide +kernel
theorem dX3_tellObject_90 : decode cX3_tellObject 90 = .ok (.iaload, 1) := by decide +kernel
theorem dX3_tellObject_91 : decode cX3_tellObject 91 = .ok (.if_icmp .ge 32, 3) := by decide +kernel
theorem dX3_tellObject_94 : decode cX3_tellObject 94 = .ok (.aload_n 0, 1) := by decide +kernel
theorem dX3_tellObject_95 : decode cX3_tellObject 95 = .ok (.iload_n 1, 1) := by decide +kernel
theorem dX3_tellObject_96 : decode cX3_tellObject 96 = .ok (.bipush 100, 2) := by decide +kernel
theorem dX3_tellObject_98 : decode cX3_tellObject 98 = .ok (.iload 6, 2) := by decide +kernel
theorem dX3_tellObject_100 : decode cX3_tellObject 100 = .ok (.iadd, 1) := by decide +kernel
theorem dX3_tellObject_101 : decode cX3_tellObject 101 = .ok (.aload_n 0, 1) := by decide +kernel
theorem dX3_tellObject_102 : decode cX3_tellObject 102 = .ok (.getfield 25, 3) := by decide +kernel
theorem dX3_tellObject_105 : decode cX3_tellObject 105 = .ok (.bipush 20, 2) := by decide +kernel
theorem dX3_tellObject_107 : decode cX3_tellObject 107 = .ok (.iload_n 2, 1) := by decide +kernel
theorem dX3_tellObject_108 : decode cX3_tellObject 108 = .ok (.imul, 1) := by decide +kernel
theorem dX3_tellObject_109 : decode cX3_tellObject 109 = .ok (.iload 6, 2) := by decide +kernel
theorem dX3_tellObject_111 : decode cX3_tellObject 111 = .ok (.iadd, 1) := by decide +kernel
theorem dX3_tellObject_112 : decode cX3_tellObject 112 = .ok (.iaload, 1) := by decide +kernel
theorem dX3_tellObject_113 : decode cX3_tellObject 113 = .ok (.i2l, 1) := by decide +kernel
theorem dX3_tellObject_114 : decode cX3_tellObject 114 = .ok (.invokevirtual 177, 3) := by decide +kernel
theorem dX3_tellObject_117 : decode cX3_tellObject 117 = .ok (.iinc 6 1, 3) := by decide +kernel
theorem dX3_tellObject_120 : decode cX3_tellObject 120 = .ok (.goto (-37), 3) := by decide +kernel
theorem dX3_tellObject_123 : decode cX3_tellObject 123 = .ok (.goto 51, 3) := by decide +kernel
theorem dX3_tellObject_126 : decode cX3_tellObject 126 = .ok (.iload_n 3, 1) := by decide +kernel
theorem dX3_tellObject_127 : decode cX3_tellObject 127 = .ok (.invokestatic 74, 3) := by decide +kernel
theorem dX3_tellObject_130 : decode cX3_tellObject 130 = .ok (.ifCond .eq 29, 3) := by decide +kernel
theorem dX3_tellObject_133 : decode cX3_tellObject 133 = .ok (.lload 4, 2) := by decide +kernel
theorem dX3_tellObject_135 : decode cX3_tellObject 135 = .ok (.ldc2_w 82, 3) := by decide +kernel
theorem dX3_tellObject_138 : decode cX3_tellObject 138 = .ok (.lcmp, 1) := by decide +kernel
theorem dX3_tellObject_139 : decode cX3_tellObject 139 = .ok (.ifCond .eq 35, 3) := by decide +kernel
theorem dX3_tellObject_142 : decode cX3_tellObject 142 = .ok (.aload_n 0, 1) := by decide +kernel
theorem dX3_tellObject_143 : decode cX3_tellObject 143 = .ok (.iload_n 1, 1) := by decide +kernel
theorem dX3_tellObject_144 : decode cX3_tellObject 144 = .ok (.iload_n 3, 1) := by decide +kernel
theorem dX3_tellObject_145 : decode cX3_tellObject 145 = .ok (.aload_n 0, 1) := by decide +kernel
theorem dX3_tellObject_146 : decode cX3_tellObject 146 = .ok (.lload 4, 2) := by decide +kernel
theorem dX3_tellObject_148 : decode cX3_tellObject 148 = .ok (.l2i, 1) := by decide +kernel
theorem dX3_tellObject_149 : decode cX3_tellObject 149 = .ok (.invokevirtual 170, 3) := by decide +kernel
theorem dX3_tellObject_152 : decode cX3_tellObject 152 = .ok (.i2l, 1) := by decide +kernel
theorem dX3_tellObject_153 : decode cX3_tellObject 153 = .ok (.invokevirtual 177, 3) := by decide +kernel
theorem dX3_tellObject_156 : decode cX3_tellObject 156 = .ok (.goto 18, 3) := by decide +kernel
theorem dX3_tellObject_159 : decode cX3_tellObject 159 = .ok (.lload 4, 2) := by decide +kernel
theorem dX3_tellObject_161 : decode cX3_tellObject 161 = .ok (.lconst 0, 1) := by decide +kernel
theorem dX3_tellObject_162 : decode cX3_tellObject 162 = .ok (.lcmp, 1) := by decide +kernel
theorem dX3_tellObject_163 : decode cX3_tellObject 163 = .ok (.ifCond .eq 11, 3) := by decide +kernel
theorem dX3_tellObject_166 : decode cX3_tellObject 166 = .ok (.aload_n 0, 1) := by decide +kernel
theorem dX3_tellObject_167 : decode cX3_tellObject 167 = .ok (.iload_n 1, 1) := by decide +kernel
theorem dX3_tellObject_168 : decode cX3_tellObject 168 = .ok (.iload_n 3, 1) := by decide +kernel
theorem dX3_tellObject_169 : decode cX3_tellObject 169 = .ok (.lload 4, 2) := by decide +kernel
theorem dX3_tellObject_171 : decode cX3_tellObject 171 = .ok (.invokevirtual 177, 3) := by decide +kernel
theorem dX3_tellObject_174 : decode cX3_tellObject 174 = .ok (.iinc 3 1, 3) := by decide +kernel
theorem dX3_tellObject_177 : decode cX3_tellObject 177 = .ok (.goto (-162), 3) := by decide +kernel
theorem dX3_tellObject_180 : decode cX3_tellObject 180 = .ok (.return_, 1) := by decide +kernel
set_option maxRecDepth 20000 in
theorem ggX3_leaves_X3_isSlot : GoodIn wsX3_leaves wsX3_isSlot := goodIn_r _ [13, 14, 15, 16, 12, 17] (by decide +kernel) (by decide +kernel)
set_option maxRecDepth 20000 in
theorem gX3_leaves_X3_isSlot : GoodIn wsX3_leaves (va_wsS RX3 84 yX3_isSlot wsX3_isSlot) := goodIn_app (goodIn_of _ (by decide +kernel)) ggX3_leaves_X3_isSlot
set_option maxRecDepth 20000 in
theorem ggX3_leaves_X3_find : GoodIn wsX3_leaves wsX3_find := goodIn_r _ [21, 22, 23, 2, 24, 25, 26, 27, 28, 12, 29, 30, 31, 32, 33, 34, 35, 36, 37, 38, 39, 40, 41, 42, 43, 44, 45, 46, 47, 5, 7, 9, 48, 49, 50, 51, 52, 53, 54, 55, 56, 57, 58, 59, 60, 61, 62, 63, 64, 65, 66, 67, 68, 69, 70] (by decide +kernel) (by decide +kernel)
set_option maxRecDepth 20000 in
theorem gX3_leaves_X3_find : GoodIn wsX3_leaves (wsV RX3 181 RX3 yX3_find wsX3_find) := goodIn_app (goodIn_of _ (by decide +kernel)) ggX3_leaves_X3_find
theorem dX3_leaves_0 : decode cX3_leaves 0 = .ok (.iload_n 1, 1) := by decide +kernel
theorem dX3_leaves_1 : decode cX3_leaves 1 = .ok (.invokestatic 84, 3) := by decide +kernel
theorem dX3_leaves_4 : decode cX3_leaves 4 = .ok (.ifCond .ne 5, 3) := by decide +kernel
theorem dX3_leaves_7 : decode cX3_leaves 7 = .ok (.iconst (-1), 1) := by decide +kernel
theorem dX3_leaves_8 : decode cX3_leaves 8 = .ok (.ireturn, 1) := by decide +kernel
theorem dX3_leaves_9 : decode cX3_leaves 9 = .ok (.aload_n 0, 1) := by decide +kernel
theorem dX3_leaves_10 : decode cX3_leaves 10 = .ok (.getfield 7, 3) := by decide +kernel
theorem dX3_leaves_13 : decode cX3_leaves 13 = .ok (.iload_n 1, 1) := by decide +kernel
theorem dX3_leaves_14 : decode cX3_leaves 14 = .ok (.iaload, 1) := by decide +kernel
theorem dX3_leaves_15 : decode cX3_leaves 15 = .ok (.iconst (-1), 1) := by decide +kernel
theorem dX3_leaves_16 : decode cX3_leaves 16 = .ok (.if_icmp .ne 6, 3) := by decide +kernel
theorem dX3_leaves_19 : decode cX3_leaves 19 = .ok (.bipush (-11), 2) := by decide +kernel
theorem dX3_leaves_21 : decode cX3_leaves 21 = .ok (.ireturn, 1) := by decide +kernel
theorem dX3_leaves_22 : decode cX3_leaves 22 = .ok (.aload_n 0, 1) := by decide +kernel
theorem dX3_leaves_23 : decode cX3_leaves 23 = .ok (.aload_n 0, 1) := by decide +kernel
theorem dX3_leaves_24 : decode cX3_leaves 24 = .ok (.getfield 7, 3) := by decide +kernel
theorem dX3_leaves_27 : decode cX3_leaves 27 = .ok (.iload_n 1, 1) := by decide +kernel
theorem dX3_leaves_28 : decode cX3_leaves 28 = .ok (.iaload, 1) := by decide +kernel
theorem dX3_leaves_29 : decode cX3_leaves 29 = .ok (.invokevirtual 181, 3) := by decide +kernel
theorem dX3_leaves_32 : decode cX3_leaves 32 = .ok (.ifCond .ne 6, 3) := by decide +kernel
theorem dX3_leaves_35 : decode cX3_leaves 35 = .ok (.bipush (-3), 2) := by decide +kernel
theorem dX3_leaves_37 : decode cX3_leaves 37 = .ok (.ireturn, 1) := by decide +kernel
theorem dX3_leaves_38 : decode cX3_leaves 38 = .ok (.aload_n 0, 1) := by decide +kernel
theorem dX3_leaves_39 : decode cX3_leaves 39 = .ok (.aload_n 0, 1) := by decide +kernel
theorem dX3_leaves_40 : decode cX3_leaves 40 = .ok (.getfield 160, 3) := by decide +kernel
theorem dX3_leaves_43 : decode cX3_leaves 43 = .ok (.putfield 184, 3) := by decide +kernel
theorem dX3_leaves_46 : decode cX3_leaves 46 = .ok (.iconst 0, 1) := by decide +kernel
theorem dX3_leaves_47 : decode cX3_leaves 47 = .ok (.istore_n 2, 1) := by decide +kernel
theorem dX3_leaves_48 : decode cX3_leaves 48 = .ok (.iload_n 2, 1) := by decide +kernel
theorem dX3_leaves_49 : decode cX3_leaves 49 = .ok (.aload_n 0, 1) := by decide +kernel
theorem dX3_leaves_50 : decode cX3_leaves 50 = .ok (.getfield 160, 3) := by decide +kernel
theorem dX3_leaves_53 : decode cX3_leaves 53 = .ok (.if_icmp .ge 45, 3) := by decide +kernel
theorem dX3_leaves_56 : decode cX3_leaves 56 = .ok (.aload_n 0, 1) := by decide +kernel
theorem dX3_leaves_57 : decode cX3_leaves 57 = .ok (.getfield 35, 3) := by decide +kernel
theorem dX3_leaves_60 : decode cX3_leaves 60 = .ok (.iload_n 2, 1) := by decide +kernel
theorem dX3_leaves_61 : decode cX3_leaves 61 = .ok (.aload_n 0, 1) := by decide +kernel
theorem dX3_leaves_62 : decode cX3_leaves 62 = .ok (.getfield 47, 3) := by decide +kernel
theorem dX3_leaves_65 : decode cX3_leaves 65 = .ok (.iload_n 2, 1) := by decide +kernel
theorem dX3_leaves_66 : decode cX3_leaves 66 = .ok (.iaload, 1) := by decide +kernel
theorem dX3_leaves_67 : decode cX3_leaves 67 = .ok (.iastore, 1) := by decide +kernel
theorem dX3_leaves_68 : decode cX3_leaves 68 = .ok (.aload_n 0, 1) := by decide +kernel
theorem dX3_leaves_69 : decode cX3_leaves 69 = .ok (.getfield 38, 3) := by decide +kernel
theorem dX3_leaves_72 : decode cX3_leaves 72 = .ok (.iload_n 2, 1) := by decide +kernel
theorem dX3_leaves_73 : decode cX3_leaves 73 = .ok (.aload_n 0, 1) := by decide +kernel
theorem dX3_leaves_74 : decode cX3_leaves 74 = .ok (.getfield 50, 3) := by decide +kernel
theorem dX3_leaves_77 : decode cX3_leaves 77 = .ok (.iload_n 2, 1) := by decide +kernel
theorem dX3_leaves_78 : decode cX3_leaves 78 = .ok (.iaload, 1) := by decide +kernel
theorem dX3_leaves_79 : decode cX3_leaves 79 = .ok (.iastore, 1) := by decide +kernel
theorem dX3_leaves_80 : decode cX3_leaves 80 = .ok (.aload_n 0, 1) := by decide +kernel
theorem dX3_leaves_81 : decode cX3_leaves 81 = .ok (.getfield 41, 3) := by decide +kernel
theorem dX3_leaves_84 : decode cX3_leaves 84 = .ok (.iload_n 2, 1) := by decide +kernel
theorem dX3_leaves_85 : decode cX3_leaves 85 = .ok (.aload_n 0, 1) := by decide +kernel
theorem dX3_leaves_86 : decode cX3_leaves 86 = .ok (.getfield 53, 3) := by decide +kernel
theorem dX3_leaves_89 : decode cX3_leaves 89 = .ok (.iload_n 2, 1) := by decide +kernel
theorem dX3_leaves_90 : decode cX3_leaves 90 = .ok (.laload, 1) := by decide +kernel
theorem dX3_leaves_91 : decode cX3_leaves 91 = .ok (.lastore, 1) := by decide +kernel
theorem dX3_leaves_92 : decode cX3_leaves 92 = .ok (.iinc 2 1, 3) := by decide +kernel
theorem dX3_leaves_95 : decode cX3_leaves 95 = .ok (.goto (-47), 3) := by decide +kernel
theorem dX3_leaves_98 : decode cX3_leaves 98 = .ok (.aload_n 0, 1) := by decide +kernel
theorem dX3_leaves_99 : decode cX3_leaves 99 = .ok (.getfield 184, 3) := by decide +kernel
theorem dX3_leaves_102 : decode cX3_leaves 102 = .ok (.ireturn, 1) := by decide +kernel
set_option maxRecDepth 20000 in
theorem ggX3_leaf_X3_in : GoodIn wsX3_leaf wsX3_in := goodIn_r _ [10] (by decide +kernel) (by decide +kernel)
set_option maxRecDepth 20000 in
theorem gX3_leaf_X3_in : GoodIn wsX3_leaf (va_wsS RX3 70 yX3_in wsX3_in) := goodIn_app (goodIn_of _ (by decide +kernel)) ggX3_leaf_X3_in
theorem dX3_leaf_0 : decode cX3_leaf 0 = .ok (.iload_n 1, 1) := by decide +kernel
theorem dX3_leaf_1 : decode cX3_leaf 1 = .ok (.i2l, 1) := by decide +kernel
theorem dX3_leaf_2 : decode cX3_leaf 2 = .ok (.lconst 0, 1) := by decide +kernel
theorem dX3_leaf_3 : decode cX3_leaf 3 = .ok (.aload_n 0, 1) := by decide +kernel
theorem dX3_leaf_4 : decode cX3_leaf 4 = .ok (.getfield 184, 3) := by decide +kernel
theorem dX3_leaf_7 : decode cX3_leaf 7 = .ok (.iconst 1, 1) := by decide +kernel
theorem dX3_leaf_8 : decode cX3_leaf 8 = .ok (.isub, 1) := by decide +kernel
theorem dX3_leaf_9 : decode cX3_leaf 9 = .ok (.i2l, 1) := by decide +kernel
theorem dX3_leaf_10 : decode cX3_leaf 10 = .ok (.invokestatic 70, 3) := by decide +kernel
theorem dX3_leaf_13 : decode cX3_leaf 13 = .ok (.ifCond .eq 15, 3) := by decide +kernel
theorem dX3_leaf_16 : decode cX3_leaf 16 = .ok (.iload_n 2, 1) := by decide +kernel
theorem dX3_leaf_17 : decode cX3_leaf 17 = .ok (.i2l, 1) := by decide +kernel
theorem dX3_leaf_18 : decode cX3_leaf 18 = .ok (.lconst 0, 1) := by decide +kernel
theorem dX3_leaf_19 : decode cX3_leaf 19 = .ok (.ldc2_w 142, 3) := by decide +kernel
theorem dX3_leaf_22 : decode cX3_leaf 22 = .ok (.invokestatic 70, 3) := by decide +kernel
theorem dX3_leaf_25 : decode cX3_leaf 25 = .ok (.ifCond .ne 7, 3) := by decide +kernel
theorem dX3_leaf_28 : decode cX3_leaf 28 = .ok (.ldc2_w 82, 3) := by decide +kernel
theorem dX3_leaf_31 : decode cX3_leaf 31 = .ok (.lreturn, 1) := by decide +kernel
theorem dX3_leaf_32 : decode cX3_leaf 32 = .ok (.iload_n 2, 1) := by decide +kernel
theorem dX3_leaf_33 : decode cX3_leaf 33 = .ok (.ifCond .ne 13, 3) := by decide +kernel
theorem dX3_leaf_36 : decode cX3_leaf 36 = .ok (.aload_n 0, 1) := by decide +kernel
theorem dX3_leaf_37 : decode cX3_leaf 37 = .ok (.getfield 35, 3) := by decide +kernel
theorem dX3_leaf_40 : decode cX3_leaf 40 = .ok (.iload_n 1, 1) := by decide +kernel
theorem dX3_leaf_41 : decode cX3_leaf 41 = .ok (.iaload, 1) := by decide +kernel
theorem dX3_leaf_42 : decode cX3_leaf 42 = .ok (.i2l, 1) := by decide +kernel
theorem dX3_leaf_43 : decode cX3_leaf 43 = .ok (.goto 24, 3) := by decide +kernel
theorem dX3_leaf_46 : decode cX3_leaf 46 = .ok (.iload_n 2, 1) := by decide +kernel
theorem dX3_leaf_47 : decode cX3_leaf 47 = .ok (.iconst 1, 1) := by decide +kernel
theorem dX3_leaf_48 : decode cX3_leaf 48 = .ok (.if_icmp .ne 13, 3) := by decide +kernel
theorem dX3_leaf_51 : decode cX3_leaf 51 = .ok (.aload_n 0, 1) := by decide +kernel
theorem dX3_leaf_52 : decode cX3_leaf 52 = .ok (.getfield 38, 3) := by decide +kernel
theorem dX3_leaf_55 : decode cX3_leaf 55 = .ok (.iload_n 1, 1) := by decide +kernel
theorem dX3_leaf_56 : decode cX3_leaf 56 = .ok (.iaload, 1) := by decide +kernel
theorem dX3_leaf_57 : decode cX3_leaf 57 = .ok (.i2l, 1) := by decide +kernel
theorem dX3_leaf_58 : decode cX3_leaf 58 = .ok (.goto 9, 3) := by decide +kernel
theorem dX3_leaf_61 : decode cX3_leaf 61 = .ok (.aload_n 0, 1) := by decide +kernel
theorem dX3_leaf_62 : decode cX3_leaf 62 = .ok (.getfield 41, 3) := by decide +kernel
theorem dX3_leaf_65 : decode cX3_leaf 65 = .ok (.iload_n 1, 1) := by decide +kernel
theorem dX3_leaf_66 : decode cX3_leaf 66 = .ok (.laload, 1) := by decide +kernel
theorem dX3_leaf_67 : decode cX3_leaf 67 = .ok (.lreturn, 1) := by decide +kernel
set_option maxRecDepth 20000 in
theorem ggX3_alter_X3_in : GoodIn wsX3_alter wsX3_in := goodIn_r _ [7] (by decide +kernel) (by decide +kernel)
set_option maxRecDepth 20000 in
theorem gX3_alter_X3_in : GoodIn wsX3_alter (va_wsS RX3 70 yX3_in wsX3_in) := goodIn_app (goodIn_of _ (by decide +kernel)) ggX3_alter_X3_in
theorem dX3_alter_0 : decode cX3_alter 0 = .ok (.iload_n 1, 1) := by decide +kernel
theorem dX3_alter_1 : decode cX3_alter 1 = .ok (.i2l, 1) := by decide +kernel
theorem dX3_alter_2 : decode cX3_alter 2 = .ok (.lconst 0, 1) := by decide +kernel
theorem dX3_alter_3 : decode cX3_alter 3 = .ok (.aload_n 0, 1) := by decide +kernel
theorem dX3_alter_4 : decode cX3_alter 4 = .ok (.getfield 184, 3) := by decide +kernel
theorem dX3_alter_7 : decode cX3_alter 7 = .ok (.iconst 1, 1) := by decide +kernel
theorem dX3_alter_8 : decode cX3_alter 8 = .ok (.isub, 1) := by decide +kernel
theorem dX3_alter_9 : decode cX3_alter 9 = .ok (.i2l, 1) := by decide +kernel
theorem dX3_alter_10 : decode cX3_alter 10 = .ok (.invokestatic 70, 3) := by decide +kernel
theorem dX3_alter_13 : decode cX3_alter 13 = .ok (.ifCond .eq 24, 3) := by decide +kernel
theorem dX3_alter_16 : decode cX3_alter 16 = .ok (.aload_n 0, 1) := by decide +kernel
theorem dX3_alter_17 : decode cX3_alter 17 = .ok (.getfield 38, 3) := by decide +kernel
theorem dX3_alter_20 : decode cX3_alter 20 = .ok (.iload_n 1, 1) := by decide +kernel
theorem dX3_alter_21 : decode cX3_alter 21 = .ok (.iaload, 1) := by decide +kernel
theorem dX3_alter_22 : decode cX3_alter 22 = .ok (.iconst (-1), 1) := by decide +kernel
theorem dX3_alter_23 : decode cX3_alter 23 = .ok (.if_icmp .eq 14, 3) := by decide +kernel
theorem dX3_alter_26 : decode cX3_alter 26 = .ok (.aload_n 0, 1) := by decide +kernel
theorem dX3_alter_27 : decode cX3_alter 27 = .ok (.getfield 38, 3) := by decide +kernel
theorem dX3_alter_30 : decode cX3_alter 30 = .ok (.iload_n 1, 1) := by decide +kernel
theorem dX3_alter_31 : decode cX3_alter 31 = .ok (.iaload, 1) := by decide +kernel
theorem dX3_alter_32 : decode cX3_alter 32 = .ok (.bipush 9, 2) := by decide +kernel
theorem dX3_alter_34 : decode cX3_alter 34 = .ok (.if_icmp .ne 5, 3) := by decide +kernel
theorem dX3_alter_37 : decode cX3_alter 37 = .ok (.iconst (-1), 1) := by decide +kernel
theorem dX3_alter_38 : decode cX3_alter 38 = .ok (.ireturn, 1) := by decide +kernel
theorem dX3_alter_39 : decode cX3_alter 39 = .ok (.aload_n 0, 1) := by decide +kernel
theorem dX3_alter_40 : decode cX3_alter 40 = .ok (.getfield 41, 3) := by decide +kernel
theorem dX3_alter_43 : decode cX3_alter 43 = .ok (.iload_n 1, 1) := by decide +kernel
theorem dX3_alter_44 : decode cX3_alter 44 = .ok (.lload_n 2, 1) := by decide +kernel
theorem dX3_alter_45 : decode cX3_alter 45 = .ok (.lastore, 1) := by decide +kernel
theorem dX3_alter_46 : decode cX3_alter 46 = .ok (.iconst 1, 1) := by decide +kernel
theorem dX3_alter_47 : decode cX3_alter 47 = .ok (.ireturn, 1) := by decide +kernel
theorem dX3_told_0 : decode cX3_told 0 = .ok (.iconst 0, 1) := by decide +kernel
theorem dX3_told_1 : decode cX3_told 1 = .ok (.istore_n 3, 1) := by decide +kernel
theorem dX3_told_2 : decode cX3_told 2 = .ok (.iload_n 3, 1) := by decide +kernel
theorem dX3_told_3 : decode cX3_told 3 = .ok (.aload_n 0, 1) := by decide +kernel
theorem dX3_told_4 : decode cX3_told 4 = .ok (.getfield 184, 3) := by decide +kernel
theorem dX3_told_7 : decode cX3_told 7 = .ok (.if_icmp .ge 36, 3) := by decide +kernel
theorem dX3_told_10 : decode cX3_told 10 = .ok (.aload_n 0, 1) := by decide +kernel
theorem dX3_told_11 : decode cX3_told 11 = .ok (.getfield 35, 3) := by decide +kernel
theorem dX3_told_14 : decode cX3_told 14 = .ok (.iload_n 3, 1) := by decide +kernel
theorem dX3_told_15 : decode cX3_told 15 = .ok (.iaload, 1) := by decide +kernel
theorem dX3_told_16 : decode cX3_told 16 = .ok (.iload_n 1, 1) := by decide +kernel
theorem dX3_told_17 : decode cX3_told 17 = .ok (.if_icmp .ne 20, 3) := by decide +kernel
theorem dX3_told_20 : decode cX3_told 20 = .ok (.aload_n 0, 1) := by decide +kernel
theorem dX3_told_21 : decode cX3_told 21 = .ok (.getfield 38, 3) := by decide +kernel
theorem dX3_told_24 : decode cX3_told 24 = .ok (.iload_n 3, 1) := by decide +kernel
theorem dX3_told_25 : decode cX3_told 25 = .ok (.iaload, 1) := by decide +kernel
theorem dX3_told_26 : decode cX3_told 26 = .ok (.iload_n 2, 1) := by decide +kernel
theorem dX3_told_27 : decode cX3_told 27 = .ok (.if_icmp .ne 10, 3) := by decide +kernel
theorem dX3_told_30 : decode cX3_told 30 = .ok (.aload_n 0, 1) := by decide +kernel
theorem dX3_told_31 : decode cX3_told 31 = .ok (.getfield 41, 3) := by decide +kernel
theorem dX3_told_34 : decode cX3_told 34 = .ok (.iload_n 3, 1) := by decide +kernel
theorem dX3_told_35 : decode cX3_told 35 = .ok (.laload, 1) := by decide +kernel
theorem dX3_told_36 : decode cX3_told 36 = .ok (.lreturn, 1) := by decide +kernel
theorem dX3_told_37 : decode cX3_told 37 = .ok (.iinc 3 1, 3) := by decide +kernel
theorem dX3_told_40 : decode cX3_told 40 = .ok (.goto (-38), 3) := by decide +kernel
theorem dX3_told_43 : decode cX3_told 43 = .ok (.lconst 0, 1) := by decide +kernel
theorem dX3_told_44 : decode cX3_told 44 = .ok (.lreturn, 1) := by decide +kernel
set_option maxRecDepth 20000 in
theorem ggX3_back_X3_isSlot : GoodIn wsX3_back wsX3_isSlot := goodIn_r _ [16, 17, 18, 19, 15, 20] (by decide +kernel) (by decide +kernel)
set_option maxRecDepth 20000 in
theorem gX3_back_X3_isSlot : GoodIn wsX3_back (va_wsS RX3 84 yX3_isSlot wsX3_isSlot) := goodIn_app (goodIn_of _ (by decide +kernel)) ggX3_back_X3_isSlot
set_option maxRecDepth 20000 in
theorem ggX3_back_X3_told : GoodIn wsX3_back wsX3_told := goodIn_r _ [24, 1, 2, 6, 7, 55, 56, 57, 58, 59, 60, 61, 62, 63, 64, 65, 66, 67, 68, 69, 70, 71, 72, 73, 74, 75, 76, 77] (by decide +kernel) (by decide +kernel)
set_option maxRecDepth 20000 in
theorem gX3_back_X3_told : GoodIn wsX3_back (wsV RX3 187 RX3 yX3_told wsX3_told) := goodIn_app (goodIn_of _ (by decide +kernel)) ggX3_back_X3_told
set_option maxRecDepth 20000 in
theorem ggX3_back_X3_in : GoodIn wsX3_back wsX3_in := goodIn_r _ [20] (by decide +kernel) (by decide +kernel)
set_option maxRecDepth 20000 in
theorem gX3_back_X3_in : GoodIn wsX3_back (va_wsS RX3 70 yX3_in wsX3_in) := goodIn_app (goodIn_of _ (by decide +kernel)) ggX3_back_X3_in
set_option maxRecDepth 20000 in
theorem ggX3_back_X3_lookWhatIsHeld : GoodIn wsX3_back wsX3_lookWhatIsHeld := goodIn_r _ [28, 29, 12, 30, 10, 11, 31, 32, 15, 33, 34, 35, 36, 55, 56, 57, 58, 59, 60, 61, 62, 63, 64, 65, 66, 67, 68, 69, 70, 71, 72, 73, 74, 75, 76, 77] (by decide +kernel) (by decide +kernel)
set_option maxRecDepth 20000 in
theorem gX3_back_X3_lookWhatIsHeld : GoodIn wsX3_back (wsV RX3 91 RX3 yX3_lookWhatIsHeld wsX3_lookWhatIsHeld) := goodIn_app (goodIn_of _ (by decide +kernel)) ggX3_back_X3_lookWhatIsHeld
set_option maxRecDepth 20000 in
theorem ggX3_back_X3_born : GoodIn wsX3_back wsX3_born := goodIn_r _ [40, 29, 10, 11, 41, 9, 31, 32, 15, 33, 55, 56, 57, 58, 59, 60, 61, 62, 63, 64, 65, 66, 67, 68, 69, 70, 71, 72, 73, 74, 75, 76, 77] (by decide +kernel) (by decide +kernel)
set_option maxRecDepth 20000 in
theorem gX3_back_X3_born : GoodIn wsX3_back (wsV RX3 94 RX3 yX3_born wsX3_born) := goodIn_app (goodIn_of _ (by decide +kernel)) ggX3_back_X3_born
set_option maxRecDepth 20000 in
theorem ggX3_back_X3_isLink : GoodIn wsX3_back wsX3_isLink := goodIn_r _ [33] (by decide +kernel) (by decide +kernel)
set_option maxRecDepth 20000 in
theorem gX3_back_X3_isLink : GoodIn wsX3_back (va_wsS RX3 74 yX3_isLink wsX3_isLink) := goodIn_app (goodIn_of _ (by decide +kernel)) ggX3_back_X3_isLink
set_option maxRecDepth 20000 in
theorem ggX3_back_X3_mayBeIn : GoodIn wsX3_back wsX3_mayBeIn := goodIn_r _ [44] (by decide +kernel) (by decide +kernel)
set_option maxRecDepth 20000 in
theorem gX3_back_X3_mayBeIn : GoodIn wsX3_back (va_wsS RX3 135 yX3_mayBeIn wsX3_mayBeIn) := goodIn_app (goodIn_of _ (by decide +kernel)) ggX3_back_X3_mayBeIn
set_option maxRecDepth 20000 in
theorem ggX3_back_X3_valueOf : GoodIn wsX3_back wsX3_valueOf := goodIn_r _ [47, 48, 49, 50, 51, 52, 53, 54] (by decide +kernel) (by decide +kernel)
set_option maxRecDepth 20000 in
theorem gX3_back_X3_valueOf : GoodIn wsX3_back (va_wsS RX3 131 yX3_valueOf wsX3_valueOf) := goodIn_app (goodIn_of _ (by decide +kernel)) ggX3_back_X3_valueOf
