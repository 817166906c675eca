theorem dX2_call_0 : decode cX2_call 0 = .ok (.iload_n 1, 1) := by decide +kernel
theorem dX2_call_1 : decode cX2_call 1 = .ok (.invokestatic 34, 3) := by decide +kernel
theorem dX2_call_4 : decode cX2_call 4 = .ok (.ifCond .eq 12, 3) := by decide +kernel
theorem dX2_call_7 : decode cX2_call 7 = .ok (.iload_n 2, 1) := by decide +kernel
theorem dX2_call_8 : decode cX2_call 8 = .ok (.ifCond .lt 8, 3) := by decide +kernel
theorem dX2_call_11 : decode cX2_call 11 = .ok (.iload_n 2, 1) := by decide +kernel
theorem dX2_call_12 : decode cX2_call 12 = .ok (.iconst 4, 1) := by decide +kernel
theorem dX2_call_13 : decode cX2_call 13 = .ok (.if_icmp .le 5, 3) := by decide +kernel
theorem dX2_call_16 : decode cX2_call 16 = .ok (.iconst (-1), 1) := by decide +kernel
theorem dX2_call_17 : decode cX2_call 17 = .ok (.ireturn, 1) := by decide +kernel
theorem dX2_call_18 : decode cX2_call 18 = .ok (.aload_n 0, 1) := by decide +kernel
theorem dX2_call_19 : decode cX2_call 19 = .ok (.getfield 11, 3) := by decide +kernel
theorem dX2_call_22 : decode cX2_call 22 = .ok (.iload_n 1, 1) := by decide +kernel
theorem dX2_call_23 : decode cX2_call 23 = .ok (.aaload, 1) := by decide +kernel
theorem dX2_call_24 : decode cX2_call 24 = .ok (.astore_n 3, 1) := by decide +kernel
theorem dX2_call_25 : decode cX2_call 25 = .ok (.aload_n 3, 1) := by decide +kernel
theorem dX2_call_26 : decode cX2_call 26 = .ok (.iload_n 2, 1) := by decide +kernel
theorem dX2_call_27 : decode cX2_call 27 = .ok (.iconst 2, 1) := by decide +kernel
theorem dX2_call_28 : decode cX2_call 28 = .ok (.if_icmp .eq 8, 3) := by decide +kernel
theorem dX2_call_31 : decode cX2_call 31 = .ok (.iload_n 2, 1) := by decide +kernel
theorem dX2_call_32 : decode cX2_call 32 = .ok (.iconst 3, 1) := by decide +kernel
theorem dX2_call_33 : decode cX2_call 33 = .ok (.if_icmp .ne 7, 3) := by decide +kernel
theorem dX2_call_36 : decode cX2_call 36 = .ok (.iconst 5, 1) := by decide +kernel
theorem dX2_call_37 : decode cX2_call 37 = .ok (.goto 4, 3) := by decide +kernel
theorem dX2_call_40 : decode cX2_call 40 = .ok (.iconst 0, 1) := by decide +kernel
theorem dX2_call_41 : decode cX2_call 41 = .ok (.invokestatic 61, 3) := by decide +kernel
theorem dX2_call_44 : decode cX2_call 44 = .ok (.istore 4, 2) := by decide +kernel
theorem dX2_call_46 : decode cX2_call 46 = .ok (.iload 4, 2) := by decide +kernel
theorem dX2_call_48 : decode cX2_call 48 = .ok (.ifCond .eq 6, 3) := by decide +kernel
theorem dX2_call_51 : decode cX2_call 51 = .ok (.iload 4, 2) := by decide +kernel
theorem dX2_call_53 : decode cX2_call 53 = .ok (.ireturn, 1) := by decide +kernel
theorem dX2_call_54 : decode cX2_call 54 = .ok (.iload_n 2, 1) := by decide +kernel
theorem dX2_call_55 : decode cX2_call 55 = .ok (.tableswitch 49 0 3 #[29, 34, 39, 44], 29) := by decide +kernel
theorem dX2_call_84 : decode cX2_call 84 = .ok (.aload_n 3, 1) := by decide +kernel
theorem dX2_call_85 : decode cX2_call 85 = .ok (.invokevirtual 101, 3) := by decide +kernel
theorem dX2_call_88 : decode cX2_call 88 = .ok (.ireturn, 1) := by decide +kernel
theorem dX2_call_89 : decode cX2_call 89 = .ok (.aload_n 3, 1) := by decide +kernel
theorem dX2_call_90 : decode cX2_call 90 = .ok (.invokevirtual 105, 3) := by decide +kernel
theorem dX2_call_93 : decode cX2_call 93 = .ok (.ireturn, 1) := by decide +kernel
theorem dX2_call_94 : decode cX2_call 94 = .ok (.aload_n 3, 1) := by decide +kernel
theorem dX2_call_95 : decode cX2_call 95 = .ok (.invokevirtual 108, 3) := by decide +kernel
theorem dX2_call_98 : decode cX2_call 98 = .ok (.ireturn, 1) := by decide +kernel
theorem dX2_call_99 : decode cX2_call 99 = .ok (.aload_n 3, 1) := by decide +kernel
theorem dX2_call_100 : decode cX2_call 100 = .ok (.invokevirtual 111, 3) := by decide +kernel
theorem dX2_call_103 : decode cX2_call 103 = .ok (.ireturn, 1) := by decide +kernel
theorem dX2_call_104 : decode cX2_call 104 = .ok (.aload_n 3, 1) := by decide +kernel
theorem dX2_call_105 : decode cX2_call 105 = .ok (.getfield 114, 3) := by decide +kernel
theorem dX2_call_108 : decode cX2_call 108 = .ok (.ifnonnull 8, 3) := by decide +kernel
theorem dX2_call_111 : decode cX2_call 111 = .ok (.bipush (-11), 2) := by decide +kernel
theorem dX2_call_113 : decode cX2_call 113 = .ok (.goto 10, 3) := by decide +kernel
theorem dX2_call_116 : decode cX2_call 116 = .ok (.aload_n 3, 1) := by decide +kernel
theorem dX2_call_117 : decode cX2_call 117 = .ok (.getfield 114, 3) := by decide +kernel
theorem dX2_call_120 : decode cX2_call 120 = .ok (.invokevirtual 101, 3) := by decide +kernel
theorem dX2_call_123 : decode cX2_call 123 = .ok (.ireturn, 1) := by decide +kernel
set_option maxRecDepth 20000 in
theorem ggX2_raise_X2_isSlot : GoodIn wsX2_raise wsX2_isSlot := goodIn_r _ [5] rfl (by decide +kernel)
set_option maxRecDepth 20000 in
theorem gX2_raise_X2_isSlot : GoodIn wsX2_raise (va_wsS RX2 34 yX2_isSlot wsX2_isSlot) := goodIn_app (goodIn_r _ [2, 3, 4] rfl (by decide +kernel)) ggX2_raise_X2_isSlot
set_option maxRecDepth 20000 in
theorem ggX2_raise_X2_thrown : GoodIn wsX2_raise wsX2_thrown := goodIn_r _ [8, 9, 10, 11, 4, 12, 13, 14, 15, 16, 17, 18, 28, 29, 30, 31, 32, 33] rfl (by decide +kernel)
set_option maxRecDepth 20000 in
theorem gX2_raise_X2_thrown : GoodIn wsX2_raise (va_wsS RX2 118 yX2_thrown wsX2_thrown) := goodIn_app (goodIn_r _ [6, 7, 4] rfl (by decide +kernel)) ggX2_raise_X2_thrown
theorem dX2_raise_0 : decode cX2_raise 0 = .ok (.iload_n 1, 1) := by decide +kernel
theorem dX2_raise_1 : decode cX2_raise 1 = .ok (.invokestatic 34, 3) := by decide +kernel
theorem dX2_raise_4 : decode cX2_raise 4 = .ok (.ifCond .eq 15, 3) := by decide +kernel
theorem dX2_raise_7 : decode cX2_raise 7 = .ok (.aload_n 0, 1) := by decide +kernel
theorem dX2_raise_8 : decode cX2_raise 8 = .ok (.getfield 11, 3) := by decide +kernel
theorem dX2_raise_11 : decode cX2_raise 11 = .ok (.iload_n 1, 1) := by decide +kernel
theorem dX2_raise_12 : decode cX2_raise 12 = .ok (.aaload, 1) := by decide +kernel
theorem dX2_raise_13 : decode cX2_raise 13 = .ok (.invokestatic 118, 3) := by decide +kernel
theorem dX2_raise_16 : decode cX2_raise 16 = .ok (.goto 4, 3) := by decide +kernel
theorem dX2_raise_19 : decode cX2_raise 19 = .ok (.iconst (-1), 1) := by decide +kernel
theorem dX2_raise_20 : decode cX2_raise 20 = .ok (.ireturn, 1) := by decide +kernel
set_option maxRecDepth 20000 in
theorem ggX2_passes_X2_isSlot : GoodIn wsX2_passes wsX2_isSlot := goodIn_r _ [6] rfl (by decide +kernel)
set_option maxRecDepth 20000 in
theorem gX2_passes_X2_isSlot : GoodIn wsX2_passes (va_wsS RX2 34 yX2_isSlot wsX2_isSlot) := goodIn_app (goodIn_r _ [3, 4, 5] rfl (by decide +kernel)) ggX2_passes_X2_isSlot
set_option maxRecDepth 20000 in
theorem ggX2_passes_X2_thrown : GoodIn wsX2_passes wsX2_thrown := goodIn_r _ [9, 10, 11, 12, 5, 13, 14, 15, 16, 17, 18, 19, 29, 30, 31, 32, 33, 34] rfl (by decide +kernel)
set_option maxRecDepth 20000 in
theorem gX2_passes_X2_thrown : GoodIn wsX2_passes (va_wsS RX2 118 yX2_thrown wsX2_thrown) := goodIn_app (goodIn_r _ [7, 8, 5] rfl (by decide +kernel)) ggX2_passes_X2_thrown
theorem dX2_passes_0 : decode cX2_passes 0 = .ok (.iload_n 1, 1) := by decide +kernel
theorem dX2_passes_1 : decode cX2_passes 1 = .ok (.invokestatic 34, 3) := by decide +kernel
theorem dX2_passes_4 : decode cX2_passes 4 = .ok (.ifCond .eq 14, 3) := by decide +kernel
theorem dX2_passes_7 : decode cX2_passes 7 = .ok (.iload_n 2, 1) := by decide +kernel
theorem dX2_passes_8 : decode cX2_passes 8 = .ok (.iconst 1, 1) := by decide +kernel
theorem dX2_passes_9 : decode cX2_passes 9 = .ok (.if_icmp .lt 9, 3) := by decide +kernel
theorem dX2_passes_12 : decode cX2_passes 12 = .ok (.iload_n 2, 1) := by decide +kernel
theorem dX2_passes_13 : decode cX2_passes 13 = .ok (.bipush 12, 2) := by decide +kernel
theorem dX2_passes_15 : decode cX2_passes 15 = .ok (.if_icmp .le 5, 3) := by decide +kernel
theorem dX2_passes_18 : decode cX2_passes 18 = .ok (.iconst (-1), 1) := by decide +kernel
theorem dX2_passes_19 : decode cX2_passes 19 = .ok (.ireturn, 1) := by decide +kernel
theorem dX2_passes_20 : decode cX2_passes 20 = .ok (.aload_n 0, 1) := by decide +kernel
theorem dX2_passes_21 : decode cX2_passes 21 = .ok (.iload_n 2, 1) := by decide +kernel
theorem dX2_passes_22 : decode cX2_passes 22 = .ok (.putfield 121, 3) := by decide +kernel
theorem dX2_passes_25 : decode cX2_passes 25 = .ok (.aload_n 0, 1) := by decide +kernel
theorem dX2_passes_26 : decode cX2_passes 26 = .ok (.getfield 11, 3) := by decide +kernel
theorem dX2_passes_29 : decode cX2_passes 29 = .ok (.iload_n 1, 1) := by decide +kernel
theorem dX2_passes_30 : decode cX2_passes 30 = .ok (.aaload, 1) := by decide +kernel
theorem dX2_passes_31 : decode cX2_passes 31 = .ok (.invokestatic 118, 3) := by decide +kernel
theorem dX2_passes_34 : decode cX2_passes 34 = .ok (.ireturn, 1) := by decide +kernel
theorem dX2_passed_0 : decode cX2_passed 0 = .ok (.aload_n 0, 1) := by decide +kernel
theorem dX2_passed_1 : decode cX2_passed 1 = .ok (.getfield 121, 3) := by decide +kernel
theorem dX2_passed_4 : decode cX2_passed 4 = .ok (.ireturn, 1) := by decide +kernel
set_option maxRecDepth 20000 in
theorem ggX2_leaves_X2_isSlot : GoodIn wsX2_leaves wsX2_isSlot := goodIn_r _ [8] rfl (by decide +kernel)
set_option maxRecDepth 20000 in
theorem gX2_leaves_X2_isSlot : GoodIn wsX2_leaves (va_wsS RX2 34 yX2_isSlot wsX2_isSlot) := goodIn_app (goodIn_r _ [5, 6, 7] rfl (by decide +kernel)) ggX2_leaves_X2_isSlot
set_option maxRecDepth 20000 in
theorem ggX2_leaves_X2_tell : GoodIn wsX2_leaves wsX2_tell := goodIn_r _ [12, 4, 13, 14, 15, 16, 7, 17, 18, 19, 20, 21, 22, 23, 24, 25, 26, 27, 28, 29, 30, 31, 32, 33, 34, 35, 36, 37, 38, 39, 40, 41, 42, 43, 44, 45, 46, 47, 48, 49, 50, 51, 52, 53, 54, 55, 56, 57, 58, 59, 60, 61, 71, 72, 73, 74, 62, 63, 64, 65, 66, 67, 68, 69, 70, 75, 76, 77, 78, 79, 80] rfl (by decide +kernel)
set_option maxRecDepth 20000 in
theorem gX2_leaves_X2_tell : GoodIn wsX2_leaves (wsV RX2 124 RX2 yX2_tell wsX2_tell) := goodIn_app (goodIn_r _ [9, 10, 11, 7] rfl (by decide +kernel)) ggX2_leaves_X2_tell
theorem dX2_leaves_0 : decode cX2_leaves 0 = .ok (.iload_n 1, 1) := by decide +kernel
theorem dX2_leaves_1 : decode cX2_leaves 1 = .ok (.invokestatic 34, 3) := by decide +kernel
theorem dX2_leaves_4 : decode cX2_leaves 4 = .ok (.ifCond .ne 5, 3) := by decide +kernel
theorem dX2_leaves_7 : decode cX2_leaves 7 = .ok (.iconst (-1), 1) := by decide +kernel
theorem dX2_leaves_8 : decode cX2_leaves 8 = .ok (.ireturn, 1) := by decide +kernel
theorem dX2_leaves_9 : decode cX2_leaves 9 = .ok (.aload_n 0, 1) := by decide +kernel
theorem dX2_leaves_10 : decode cX2_leaves 10 = .ok (.getfield 11, 3) := by decide +kernel
theorem dX2_leaves_13 : decode cX2_leaves 13 = .ok (.iload_n 1, 1) := by decide +kernel
theorem dX2_leaves_14 : decode cX2_leaves 14 = .ok (.aaload, 1) := by decide +kernel
theorem dX2_leaves_15 : decode cX2_leaves 15 = .ok (.astore_n 2, 1) := by decide +kernel
theorem dX2_leaves_16 : decode cX2_leaves 16 = .ok (.aload_n 2, 1) := by decide +kernel
theorem dX2_leaves_17 : decode cX2_leaves 17 = .ok (.ifnonnull 6, 3) := by decide +kernel
theorem dX2_leaves_20 : decode cX2_leaves 20 = .ok (.bipush (-11), 2) := by decide +kernel
theorem dX2_leaves_22 : decode cX2_leaves 22 = .ok (.ireturn, 1) := by decide +kernel
theorem dX2_leaves_23 : decode cX2_leaves 23 = .ok (.aload_n 0, 1) := by decide +kernel
theorem dX2_leaves_24 : decode cX2_leaves 24 = .ok (.aload_n 2, 1) := by decide +kernel
theorem dX2_leaves_25 : decode cX2_leaves 25 = .ok (.aload_n 0, 1) := by decide +kernel
theorem dX2_leaves_26 : decode cX2_leaves 26 = .ok (.getfield 22, 3) := by decide +kernel
theorem dX2_leaves_29 : decode cX2_leaves 29 = .ok (.invokevirtual 124, 3) := by decide +kernel
theorem dX2_leaves_32 : decode cX2_leaves 32 = .ok (.ifCond .ne 6, 3) := by decide +kernel
theorem dX2_leaves_35 : decode cX2_leaves 35 = .ok (.bipush (-3), 2) := by decide +kernel
theorem dX2_leaves_37 : decode cX2_leaves 37 = .ok (.ireturn, 1) := by decide +kernel
theorem dX2_leaves_38 : decode cX2_leaves 38 = .ok (.aload_n 0, 1) := by decide +kernel
theorem dX2_leaves_39 : decode cX2_leaves 39 = .ok (.getfield 18, 3) := by decide +kernel
theorem dX2_leaves_42 : decode cX2_leaves 42 = .ok (.astore_n 3, 1) := by decide +kernel
theorem dX2_leaves_43 : decode cX2_leaves 43 = .ok (.aload_n 0, 1) := by decide +kernel
theorem dX2_leaves_44 : decode cX2_leaves 44 = .ok (.aload_n 0, 1) := by decide +kernel
theorem dX2_leaves_45 : decode cX2_leaves 45 = .ok (.getfield 22, 3) := by decide +kernel
theorem dX2_leaves_48 : decode cX2_leaves 48 = .ok (.putfield 18, 3) := by decide +kernel
theorem dX2_leaves_51 : decode cX2_leaves 51 = .ok (.aload_n 0, 1) := by decide +kernel
theorem dX2_leaves_52 : decode cX2_leaves 52 = .ok (.aload_n 3, 1) := by decide +kernel
theorem dX2_leaves_53 : decode cX2_leaves 53 = .ok (.putfield 22, 3) := by decide +kernel
theorem dX2_leaves_56 : decode cX2_leaves 56 = .ok (.aload_n 0, 1) := by decide +kernel
theorem dX2_leaves_57 : decode cX2_leaves 57 = .ok (.getfield 18, 3) := by decide +kernel
theorem dX2_leaves_60 : decode cX2_leaves 60 = .ok (.getfield 128, 3) := by decide +kernel
theorem dX2_leaves_63 : decode cX2_leaves 63 = .ok (.ireturn, 1) := by decide +kernel
set_option maxRecDepth 20000 in
theorem ggX2_leaf_X0_has : GoodIn wsX2_leaf wsX0_has := goodIn_r _ [10, 11, 21, 22, 23, 24] rfl (by decide +kernel)
set_option maxRecDepth 20000 in
theorem gX2_leaf_X0_has : GoodIn wsX2_leaf (wsV RX2 131 RX0 yX0_has wsX0_has) := goodIn_app (goodIn_r _ [6, 7, 8, 9] rfl (by decide +kernel)) ggX2_leaf_X0_has
theorem dX2_leaf_0 : decode cX2_leaf 0 = .ok (.aload_n 0, 1) := by decide +kernel
theorem dX2_leaf_1 : decode cX2_leaf 1 = .ok (.getfield 18, 3) := by decide +kernel
theorem dX2_leaf_4 : decode cX2_leaf 4 = .ok (.iload_n 1, 1) := by decide +kernel
theorem dX2_leaf_5 : decode cX2_leaf 5 = .ok (.invokevirtual 131, 3) := by decide +kernel
theorem dX2_leaf_8 : decode cX2_leaf 8 = .ok (.ifCond .eq 12, 3) := by decide +kernel
theorem dX2_leaf_11 : decode cX2_leaf 11 = .ok (.iload_n 2, 1) := by decide +kernel
theorem dX2_leaf_12 : decode cX2_leaf 12 = .ok (.ifCond .lt 8, 3) := by decide +kernel
theorem dX2_leaf_15 : decode cX2_leaf 15 = .ok (.iload_n 2, 1) := by decide +kernel
theorem dX2_leaf_16 : decode cX2_leaf 16 = .ok (.iconst 2, 1) := by decide +kernel
theorem dX2_leaf_17 : decode cX2_leaf 17 = .ok (.if_icmp .le 7, 3) := by decide +kernel
theorem dX2_leaf_20 : decode cX2_leaf 20 = .ok (.ldc2_w 55, 3) := by decide +kernel
theorem dX2_leaf_23 : decode cX2_leaf 23 = .ok (.lreturn, 1) := by decide +kernel
theorem dX2_leaf_24 : decode cX2_leaf 24 = .ok (.iload_n 2, 1) := by decide +kernel
theorem dX2_leaf_25 : decode cX2_leaf 25 = .ok (.ifCond .ne 14, 3) := by decide +kernel
theorem dX2_leaf_28 : decode cX2_leaf 28 = .ok (.aload_n 0, 1) := by decide +kernel
theorem dX2_leaf_29 : decode cX2_leaf 29 = .ok (.getfield 18, 3) := by decide +kernel
theorem dX2_leaf_32 : decode cX2_leaf 32 = .ok (.getfield 134, 3) := by decide +kernel
theorem dX2_leaf_35 : decode cX2_leaf 35 = .ok (.iload_n 1, 1) := by decide +kernel
theorem dX2_leaf_36 : decode cX2_leaf 36 = .ok (.iaload, 1) := by decide +kernel
theorem dX2_leaf_37 : decode cX2_leaf 37 = .ok (.i2l, 1) := by decide +kernel
theorem dX2_leaf_38 : decode cX2_leaf 38 = .ok (.lreturn, 1) := by decide +kernel
theorem dX2_leaf_39 : decode cX2_leaf 39 = .ok (.iload_n 2, 1) := by decide +kernel
theorem dX2_leaf_40 : decode cX2_leaf 40 = .ok (.iconst 1, 1) := by decide +kernel
theorem dX2_leaf_41 : decode cX2_leaf 41 = .ok (.if_icmp .ne 16, 3) := by decide +kernel
theorem dX2_leaf_44 : decode cX2_leaf 44 = .ok (.aload_n 0, 1) := by decide +kernel
theorem dX2_leaf_45 : decode cX2_leaf 45 = .ok (.getfield 18, 3) := by decide +kernel
theorem dX2_leaf_48 : decode cX2_leaf 48 = .ok (.getfield 137, 3) := by decide +kernel
theorem dX2_leaf_51 : decode cX2_leaf 51 = .ok (.iload_n 1, 1) := by decide +kernel
theorem dX2_leaf_52 : decode cX2_leaf 52 = .ok (.iaload, 1) := by decide +kernel
theorem dX2_leaf_53 : decode cX2_leaf 53 = .ok (.i2l, 1) := by decide +kernel
theorem dX2_leaf_54 : decode cX2_leaf 54 = .ok (.goto 12, 3) := by decide +kernel
theorem dX2_leaf_57 : decode cX2_leaf 57 = .ok (.aload_n 0, 1) := by decide +kernel
theorem dX2_leaf_58 : decode cX2_leaf 58 = .ok (.getfield 18, 3) := by decide +kernel
theorem dX2_leaf_61 : decode cX2_leaf 61 = .ok (.getfield 140, 3) := by decide +kernel
theorem dX2_leaf_64 : decode cX2_leaf 64 = .ok (.iload_n 1, 1) := by decide +kernel
theorem dX2_leaf_65 : decode cX2_leaf 65 = .ok (.laload, 1) := by decide +kernel
theorem dX2_leaf_66 : decode cX2_leaf 66 = .ok (.lreturn, 1) := by decide +kernel
set_option maxRecDepth 20000 in
theorem ggX2_alter_X0_has : GoodIn wsX2_alter wsX0_has := goodIn_r _ [8, 9, 19, 20, 21, 22] rfl (by decide +kernel)
set_option maxRecDepth 20000 in
theorem gX2_alter_X0_has : GoodIn wsX2_alter (wsV RX2 131 RX0 yX0_has wsX0_has) := goodIn_app (goodIn_r _ [4, 5, 6, 7] rfl (by decide +kernel)) ggX2_alter_X0_has
theorem dX2_alter_0 : decode cX2_alter 0 = .ok (.aload_n 0, 1) := by decide +kernel
theorem dX2_alter_1 : decode cX2_alter 1 = .ok (.getfield 18, 3) := by decide +kernel
theorem dX2_alter_4 : decode cX2_alter 4 = .ok (.iload_n 1, 1) := by decide +kernel
theorem dX2_alter_5 : decode cX2_alter 5 = .ok (.invokevirtual 131, 3) := by decide +kernel
theorem dX2_alter_8 : decode cX2_alter 8 = .ok (.ifCond .eq 30, 3) := by decide +kernel
theorem dX2_alter_11 : decode cX2_alter 11 = .ok (.aload_n 0, 1) := by decide +kernel
theorem dX2_alter_12 : decode cX2_alter 12 = .ok (.getfield 18, 3) := by decide +kernel
theorem dX2_alter_15 : decode cX2_alter 15 = .ok (.getfield 137, 3) := by decide +kernel
theorem dX2_alter_18 : decode cX2_alter 18 = .ok (.iload_n 1, 1) := by decide +kernel
theorem dX2_alter_19 : decode cX2_alter 19 = .ok (.iaload, 1) := by decide +kernel
theorem dX2_alter_20 : decode cX2_alter 20 = .ok (.iconst (-1), 1) := by decide +kernel
theorem dX2_alter_21 : decode cX2_alter 21 = .ok (.if_icmp .eq 17, 3) := by decide +kernel
theorem dX2_alter_24 : decode cX2_alter 24 = .ok (.aload_n 0, 1) := by decide +kernel
theorem dX2_alter_25 : decode cX2_alter 25 = .ok (.getfield 18, 3) := by decide +kernel
theorem dX2_alter_28 : decode cX2_alter 28 = .ok (.getfield 137, 3) := by decide +kernel
theorem dX2_alter_31 : decode cX2_alter 31 = .ok (.iload_n 1, 1) := by decide +kernel
theorem dX2_alter_32 : decode cX2_alter 32 = .ok (.iaload, 1) := by decide +kernel
theorem dX2_alter_33 : decode cX2_alter 33 = .ok (.bipush 9, 2) := by decide +kernel
theorem dX2_alter_35 : decode cX2_alter 35 = .ok (.if_icmp .ne 5, 3) := by decide +kernel
theorem dX2_alter_38 : decode cX2_alter 38 = .ok (.iconst (-1), 1) := by decide +kernel
theorem dX2_alter_39 : decode cX2_alter 39 = .ok (.ireturn, 1) := by decide +kernel
theorem dX2_alter_40 : decode cX2_alter 40 = .ok (.aload_n 0, 1) := by decide +kernel
theorem dX2_alter_41 : decode cX2_alter 41 = .ok (.getfield 18, 3) := by decide +kernel
theorem dX2_alter_44 : decode cX2_alter 44 = .ok (.getfield 140, 3) := by decide +kernel
theorem dX2_alter_47 : decode cX2_alter 47 = .ok (.iload_n 1, 1) := by decide +kernel
theorem dX2_alter_48 : decode cX2_alter 48 = .ok (.lload_n 2, 1) := by decide +kernel
theorem dX2_alter_49 : decode cX2_alter 49 = .ok (.lastore, 1) := by decide +kernel
theorem dX2_alter_50 : decode cX2_alter 50 = .ok (.iconst 1, 1) := by decide +kernel
theorem dX2_alter_51 : decode cX2_alter 51 = .ok (.ireturn, 1) := by decide +kernel
set_option maxRecDepth 20000 in
theorem ggX2_back_X2_isSlot : GoodIn wsX2_back wsX2_isSlot := goodIn_r _ [9] rfl (by decide +kernel)
set_option maxRecDepth 20000 in
theorem gX2_back_X2_isSlot : GoodIn wsX2_back (va_wsS RX2 34 yX2_isSlot wsX2_isSlot) := goodIn_app (goodIn_r _ [6, 7, 8] rfl (by decide +kernel)) ggX2_back_X2_isSlot
set_option maxRecDepth 20000 in
theorem ggX2_back_X2_makeFromLeaves : GoodIn wsX2_back wsX2_makeFromLeaves := goodIn_r _ [13, 5, 1, 2, 14, 15, 4, 16, 17, 18, 19, 20, 21, 22, 23, 24, 25, 26, 27, 8, 28, 29, 30, 31, 32, 33, 34, 35, 36, 37, 38, 39, 40, 41, 42, 43, 44, 45, 46, 47, 48, 49, 50, 51, 52, 53, 54, 55, 105, 106, 107, 108, 109, 110, 111, 112, 113, 114, 115, 116, 117, 118, 119, 120, 121, 122, 123] rfl (by decide +kernel)
set_option maxRecDepth 20000 in
theorem gX2_back_X2_makeFromLeaves : GoodIn wsX2_back (wsV RX2 141 RX2 yX2_makeFromLeaves wsX2_makeFromLeaves) := goodIn_app (goodIn_r _ [10, 11, 12, 8] rfl (by decide +kernel)) ggX2_back_X2_makeFromLeaves
set_option maxRecDepth 20000 in
theorem ggX2_back_X2_fillFromLeaves : GoodIn wsX2_back wsX2_fillFromLeaves := goodIn_r _ [59, 1, 2, 60, 14, 15, 61, 62, 63, 8, 64, 5, 4, 65, 66, 67, 68, 69, 70, 71, 72, 73, 74, 75, 31, 76, 77, 78, 79, 80, 81, 82, 83, 84, 85, 86, 87, 88, 18, 89, 55, 90, 91, 92, 93, 94, 95, 96, 97, 98, 99, 100, 101, 102, 103, 27, 28, 104, 29, 30, 32, 33, 34, 35, 36, 37, 38, 39, 40, 41, 42, 43, 105, 106, 107, 108, 109, 110, 111, 112, 113, 114, 115, 116, 117, 118, 119, 120, 121, 122, 123] rfl (by decide +kernel)
set_option maxRecDepth 20000 in
theorem gX2_back_X2_fillFromLeaves : GoodIn wsX2_back (wsV RX2 144 RX2 yX2_fillFromLeaves wsX2_fillFromLeaves) := goodIn_app (goodIn_r _ [56, 57, 58, 8] rfl (by decide +kernel)) ggX2_back_X2_fillFromLeaves
theorem dX2_back_0 : decode cX2_back 0 = .ok (.iload_n 1, 1) := by decide +kernel
theorem dX2_back_1 : decode cX2_back 1 = .ok (.invokestatic 34, 3) := by decide +kernel
theorem dX2_back_4 : decode cX2_back 4 = .ok (.ifCond .ne 5, 3) := by decide +kernel
theorem dX2_back_7 : decode cX2_back 7 = .ok (.iconst (-1), 1) := by decide +kernel
theorem dX2_back_8 : decode cX2_back 8 = .ok (.ireturn, 1) := by decide +kernel
theorem dX2_back_9 : decode cX2_back 9 = .ok (.aload_n 0, 1) := by decide +kernel
theorem dX2_back_10 : decode cX2_back 10 = .ok (.getfield 18, 3) := by decide +kernel
theorem dX2_back_13 : decode cX2_back 13 = .ok (.getfield 128, 3) := by decide +kernel
theorem dX2_back_16 : decode cX2_back 16 = .ok (.ifCond .ne 6, 3) := by decide +kernel
theorem dX2_back_19 : decode cX2_back 19 = .ok (.bipush (-3), 2) := by decide +kernel
theorem dX2_back_21 : decode cX2_back 21 = .ok (.ireturn, 1) := by decide +kernel
theorem dX2_back_22 : decode cX2_back 22 = .ok (.aload_n 0, 1) := by decide +kernel
theorem dX2_back_23 : decode cX2_back 23 = .ok (.invokevirtual 141, 3) := by decide +kernel
theorem dX2_back_26 : decode cX2_back 26 = .ok (.istore_n 2, 1) := by decide +kernel
theorem dX2_back_27 : decode cX2_back 27 = .ok (.iload_n 2, 1) := by decide +kernel
theorem dX2_back_28 : decode cX2_back 28 = .ok (.ifCond .ne 8, 3) := by decide +kernel
theorem dX2_back_31 : decode cX2_back 31 = .ok (.aload_n 0, 1) := by decide +kernel
theorem dX2_back_32 : decode cX2_back 32 = .ok (.invokevirtual 144, 3) := by decide +kernel
theorem dX2_back_35 : decode cX2_back 35 = .ok (.istore_n 2, 1) := by decide +kernel
theorem dX2_back_36 : decode cX2_back 36 = .ok (.iload_n 2, 1) := by decide +kernel
theorem dX2_back_37 : decode cX2_back 37 = .ok (.ifCond .eq 5, 3) := by decide +kernel
theorem dX2_back_40 : decode cX2_back 40 = .ok (.iload_n 2, 1) := by decide +kernel
theorem dX2_back_41 : decode cX2_back 41 = .ok (.ireturn, 1) := by decide +kernel
theorem dX2_back_42 : decode cX2_back 42 = .ok (.aload_n 0, 1) := by decide +kernel
theorem dX2_back_43 : decode cX2_back 43 = .ok (.getfield 11, 3) := by decide +kernel
theorem dX2_back_46 : decode cX2_back 46 = .ok (.iload_n 1, 1) := by decide +kernel
theorem dX2_back_47 : decode cX2_back 47 = .ok (.aload_n 0, 1) := by decide +kernel
theorem dX2_back_48 : decode cX2_back 48 = .ok (.getfield 31, 3) := by decide +kernel
theorem dX2_back_51 : decode cX2_back 51 = .ok (.iconst 0, 1) := by decide +kernel
theorem dX2_back_52 : decode cX2_back 52 = .ok (.aaload, 1) := by decide +kernel
theorem dX2_back_53 : decode cX2_back 53 = .ok (.aastore, 1) := by decide +kernel
theorem dX2_back_54 : decode cX2_back 54 = .ok (.aload_n 0, 1) := by decide +kernel
theorem dX2_back_55 : decode cX2_back 55 = .ok (.getfield 147, 3) := by decide +kernel
theorem dX2_back_58 : decode cX2_back 58 = .ok (.ireturn, 1) := by decide +kernel
set_option maxRecDepth 20000 in
theorem ggX2_equal_X2_isSlot : GoodIn wsX2_equal wsX2_isSlot := goodIn_r _ [7] rfl (by decide +kernel)
set_option maxRecDepth 20000 in
theorem gX2_equal_X2_isSlot : GoodIn wsX2_equal (va_wsS RX2 34 yX2_isSlot wsX2_isSlot) := goodIn_app (goodIn_r _ [4, 5, 6] rfl (by decide +kernel)) ggX2_equal_X2_isSlot
set_option maxRecDepth 20000 in
theorem ggX2_equal_X2_tell : GoodIn wsX2_equal wsX2_tell := goodIn_r _ [11, 12, 13, 14, 15, 16, 6, 17, 18, 19, 20, 21, 22, 23, 24, 25, 26, 27, 28, 29, 30, 31, 32, 33, 34, 35, 36, 37, 38, 39, 40, 41, 42, 43, 44, 45, 46, 47, 48, 49, 50, 51, 52, 53, 54, 55, 56, 57, 58, 59, 60, 61, 75, 76, 77, 78, 66, 67, 68, 69, 70, 71, 72, 73, 74, 79, 80, 81, 82, 83, 84] rfl (by decide +kernel)
set_option maxRecDepth 20000 in
theorem gX2_equal_X2_tell : GoodIn wsX2_equal (wsV RX2 124 RX2 yX2_tell wsX2_tell) := goodIn_app (goodIn_r _ [8, 9, 10, 6] rfl (by decide +kernel)) ggX2_equal_X2_tell
set_option maxRecDepth 20000 in
theorem ggX2_equal_X0_sameAs : GoodIn wsX2_equal wsX0_sameAs := goodIn_r _ [65, 40, 41, 42, 43, 75, 76, 77, 78] rfl (by decide +kernel)
set_option maxRecDepth 20000 in
theorem gX2_equal_X0_sameAs : GoodIn wsX2_equal (wsV RX2 150 RX0 yX0_sameAs wsX0_sameAs) := goodIn_app (goodIn_r _ [62, 63, 64, 38] rfl (by decide +kernel)) ggX2_equal_X0_sameAs
theorem dX2_equal_0 : decode cX2_equal 0 = .ok (.iload_n 1, 1) := by decide +kernel
theorem dX2_equal_1 : decode cX2_equal 1 = .ok (.invokestatic 34, 3) := by decide +kernel
theorem dX2_equal_4 : decode cX2_equal 4 = .ok (.ifCond .eq 10, 3) := by decide +kernel
theorem dX2_equal_7 : decode cX2_equal 7 = .ok (.iload_n 2, 1) := by decide +kernel
theorem dX2_equal_8 : decode cX2_equal 8 = .ok (.invokestatic 34, 3) := by decide +kernel
theorem dX2_equal_11 : decode cX2_equal 11 = .ok (.ifCond .ne 5, 3) := by decide +kernel
theorem dX2_equal_14 : decode cX2_equal 14 = .ok (.iconst (-1), 1) := by decide +kernel
theorem dX2_equal_15 : decode cX2_equal 15 = .ok (.ireturn, 1) := by decide +kernel
theorem dX2_equal_16 : decode cX2_equal 16 = .ok (.aload_n 0, 1) := by decide +kernel
theorem dX2_equal_17 : decode cX2_equal 17 = .ok (.getfield 11, 3) := by decide +kernel
theorem dX2_equal_20 : decode cX2_equal 20 = .ok (.iload_n 1, 1) := by decide +kernel
theorem dX2_equal_21 : decode cX2_equal 21 = .ok (.aaload, 1) := by decide +kernel
theorem dX2_equal_22 : decode cX2_equal 22 = .ok (.astore_n 3, 1) := by decide +kernel
theorem dX2_equal_23 : decode cX2_equal 23 = .ok (.aload_n 0, 1) := by decide +kernel
theorem dX2_equal_24 : decode cX2_equal 24 = .ok (.getfield 11, 3) := by decide +kernel
theorem dX2_equal_27 : decode cX2_equal 27 = .ok (.iload_n 2, 1) := by decide +kernel
theorem dX2_equal_28 : decode cX2_equal 28 = .ok (.aaload, 1) := by decide +kernel
theorem dX2_equal_29 : decode cX2_equal 29 = .ok (.astore 4, 2) := by decide +kernel
theorem dX2_equal_31 : decode cX2_equal 31 = .ok (.aload_n 3, 1) := by decide +kernel
theorem dX2_equal_32 : decode cX2_equal 32 = .ok (.ifnull 15, 3) := by decide +kernel
theorem dX2_equal_35 : decode cX2_equal 35 = .ok (.aload_n 0, 1) := by decide +kernel
theorem dX2_equal_36 : decode cX2_equal 36 = .ok (.aload_n 3, 1) := by decide +kernel
theorem dX2_equal_37 : decode cX2_equal 37 = .ok (.aload_n 0, 1) := by decide +kernel
theorem dX2_equal_38 : decode cX2_equal 38 = .ok (.getfield 22, 3) := by decide +kernel
theorem dX2_equal_41 : decode cX2_equal 41 = .ok (.invokevirtual 124, 3) := by decide +kernel
theorem dX2_equal_44 : decode cX2_equal 44 = .ok (.ifCond .eq 21, 3) := by decide +kernel
theorem dX2_equal_47 : decode cX2_equal 47 = .ok (.aload 4, 2) := by decide +kernel
theorem dX2_equal_49 : decode cX2_equal 49 = .ok (.ifnull 19, 3) := by decide +kernel
theorem dX2_equal_52 : decode cX2_equal 52 = .ok (.aload_n 0, 1) := by decide +kernel
theorem dX2_equal_53 : decode cX2_equal 53 = .ok (.aload 4, 2) := by decide +kernel
theorem dX2_equal_55 : decode cX2_equal 55 = .ok (.aload_n 0, 1) := by decide +kernel
theorem dX2_equal_56 : decode cX2_equal 56 = .ok (.getfield 25, 3) := by decide +kernel
theorem dX2_equal_59 : decode cX2_equal 59 = .ok (.invokevirtual 124, 3) := by decide +kernel
theorem dX2_equal_62 : decode cX2_equal 62 = .ok (.ifCond .ne 6, 3) := by decide +kernel
theorem dX2_equal_65 : decode cX2_equal 65 = .ok (.bipush (-3), 2) := by decide +kernel
theorem dX2_equal_67 : decode cX2_equal 67 = .ok (.ireturn, 1) := by decide +kernel
theorem dX2_equal_68 : decode cX2_equal 68 = .ok (.aload_n 3, 1) := by decide +kernel
theorem dX2_equal_69 : decode cX2_equal 69 = .ok (.ifnull 8, 3) := by decide +kernel
theorem dX2_equal_72 : decode cX2_equal 72 = .ok (.aload 4, 2) := by decide +kernel
theorem dX2_equal_74 : decode cX2_equal 74 = .ok (.ifnonnull 15, 3) := by decide +kernel
theorem dX2_equal_77 : decode cX2_equal 77 = .ok (.aload_n 3, 1) := by decide +kernel
theorem dX2_equal_78 : decode cX2_equal 78 = .ok (.aload 4, 2) := by decide +kernel
theorem dX2_equal_80 : decode cX2_equal 80 = .ok (.if_acmp .ne 7, 3) := by decide +kernel
theorem dX2_equal_83 : decode cX2_equal 83 = .ok (.iconst 1, 1) := by decide +kernel
theorem dX2_equal_84 : decode cX2_equal 84 = .ok (.goto 4, 3) := by decide +kernel
theorem dX2_equal_87 : decode cX2_equal 87 = .ok (.iconst 0, 1) := by decide +kernel
theorem dX2_equal_88 : decode cX2_equal 88 = .ok (.ireturn, 1) := by decide +kernel
theorem dX2_equal_89 : decode cX2_equal 89 = .ok (.aload_n 0, 1) := by decide +kernel
theorem dX2_equal_90 : decode cX2_equal 90 = .ok (.getfield 22, 3) := by decide +kernel
theorem dX2_equal_93 : decode cX2_equal 93 = .ok (.aload_n 0, 1) := by decide +kernel
theorem dX2_equal_94 : decode cX2_equal 94 = .ok (.getfield 25, 3) := by decide +kernel
theorem dX2_equal_97 : decode cX2_equal 97 = .ok (.invokevirtual 150, 3) := by decide +kernel
theorem dX2_equal_100 : decode cX2_equal 100 = .ok (.ifCond .eq 7, 3) := by decide +kernel
theorem dX2_equal_103 : decode cX2_equal 103 = .ok (.iconst 1, 1) := by decide +kernel
theorem dX2_equal_104 : decode cX2_equal 104 = .ok (.goto 4, 3) := by decide +kernel
theorem dX2_equal_107 : decode cX2_equal 107 = .ok (.iconst 0, 1) := by decide +kernel
theorem dX2_equal_108 : decode cX2_equal 108 = .ok (.ireturn, 1) := by decide +kernel
set_option maxRecDepth 20000 in
theorem ggX2_changed_X2_isSlot : GoodIn wsX2_changed wsX2_isSlot := goodIn_r _ [6] rfl (by decide +kernel)
set_option maxRecDepth 20000 in
theorem gX2_changed_X2_isSlot : GoodIn wsX2_changed (va_wsS RX2 34 yX2_isSlot wsX2_isSlot) := goodIn_app (goodIn_r _ [3, 4, 5] rfl (by decide +kernel)) ggX2_changed_X2_isSlot
set_option maxRecDepth 20000 in
theorem ggX2_changed_X2_differ : GoodIn wsX2_changed wsX2_differ := goodIn_r _ [9, 10, 11, 12, 13, 14, 15, 16, 17, 18, 19, 20, 21, 22, 5, 23, 33, 34, 35, 36, 37, 38] rfl (by decide +kernel)
set_option maxRecDepth 20000 in
theorem gX2_changed_X2_differ : GoodIn wsX2_changed (va_wsS RX2 154 yX2_differ wsX2_differ) := goodIn_app (goodIn_r _ [7, 8, 5] rfl (by decide +kernel)) ggX2_changed_X2_differ
theorem dX2_changed_0 : decode cX2_changed 0 = .ok (.iload_n 1, 1) := by decide +kernel
theorem dX2_changed_1 : decode cX2_changed 1 = .ok (.invokestatic 34, 3) := by decide +kernel
theorem dX2_changed_4 : decode cX2_changed 4 = .ok (.ifCond .eq 14, 3) := by decide +kernel
theorem dX2_changed_7 : decode cX2_changed 7 = .ok (.iload_n 2, 1) := by decide +kernel
theorem dX2_changed_8 : decode cX2_changed 8 = .ok (.invokestatic 34, 3) := by decide +kernel
theorem dX2_changed_11 : decode cX2_changed 11 = .ok (.ifCond .eq 7, 3) := by decide +kernel
theorem dX2_changed_14 : decode cX2_changed 14 = .ok (.iload_n 3, 1) := by decide +kernel
theorem dX2_changed_15 : decode cX2_changed 15 = .ok (.ifCond .ge 5, 3) := by decide +kernel
theorem dX2_changed_18 : decode cX2_changed 18 = .ok (.iconst (-1), 1) := by decide +kernel
theorem dX2_changed_19 : decode cX2_changed 19 = .ok (.ireturn, 1) := by decide +kernel
theorem dX2_changed_20 : decode cX2_changed 20 = .ok (.aload_n 0, 1) := by decide +kernel
theorem dX2_changed_21 : decode cX2_changed 21 = .ok (.getfield 11, 3) := by decide +kernel
theorem dX2_changed_24 : decode cX2_changed 24 = .ok (.iload_n 1, 1) := by decide +kernel
theorem dX2_changed_25 : decode cX2_changed 25 = .ok (.aaload, 1) := by decide +kernel
theorem dX2_changed_26 : decode cX2_changed 26 = .ok (.astore 4, 2) := by decide +kernel
theorem dX2_changed_28 : decode cX2_changed 28 = .ok (.aload_n 0, 1) := by decide +kernel
theorem dX2_changed_29 : decode cX2_changed 29 = .ok (.getfield 11, 3) := by decide +kernel
theorem dX2_changed_32 : decode cX2_changed 32 = .ok (.iload_n 2, 1) := by decide +kernel
theorem dX2_changed_33 : decode cX2_changed 33 = .ok (.aaload, 1) := by decide +kernel
theorem dX2_changed_34 : decode cX2_changed 34 = .ok (.astore 5, 2) := by decide +kernel
theorem dX2_changed_36 : decode cX2_changed 36 = .ok (.aload 4, 2) := by decide +kernel
theorem dX2_changed_38 : decode cX2_changed 38 = .ok (.ifnull 8, 3) := by decide +kernel
theorem dX2_changed_41 : decode cX2_changed 41 = .ok (.aload 5, 2) := by decide +kernel
theorem dX2_changed_43 : decode cX2_changed 43 = .ok (.ifnonnull 6, 3) := by decide +kernel
theorem dX2_changed_46 : decode cX2_changed 46 = .ok (.bipush (-11), 2) := by decide +kernel
theorem dX2_changed_48 : decode cX2_changed 48 = .ok (.ireturn, 1) := by decide +kernel
theorem dX2_changed_49 : decode cX2_changed 49 = .ok (.aload 4, 2) := by decide +kernel
theorem dX2_changed_51 : decode cX2_changed 51 = .ok (.getfield 45, 3) := by decide +kernel
theorem dX2_changed_54 : decode cX2_changed 54 = .ok (.aload 5, 2) := by decide +kernel
theorem dX2_changed_56 : decode cX2_changed 56 = .ok (.getfield 45, 3) := by decide +kernel
theorem dX2_changed_59 : decode cX2_changed 59 = .ok (.if_icmp .eq 6, 3) := by decide +kernel
theorem dX2_changed_62 : decode cX2_changed 62 = .ok (.bipush (-14), 2) := by decide +kernel
theorem dX2_changed_64 : decode cX2_changed 64 = .ok (.ireturn, 1) := by decide +kernel
theorem dX2_changed_65 : decode cX2_changed 65 = .ok (.iconst 0, 1) := by decide +kernel
theorem dX2_changed_66 : decode cX2_changed 66 = .ok (.istore 6, 2) := by decide +kernel
theorem dX2_changed_68 : decode cX2_changed 68 = .ok (.iconst 0, 1) := by decide +kernel
theorem dX2_changed_69 : decode cX2_changed 69 = .ok (.istore 7, 2) := by decide +kernel
theorem dX2_changed_71 : decode cX2_changed 71 = .ok (.iload 7, 2) := by decide +kernel
theorem dX2_changed_73 : decode cX2_changed 73 = .ok (.bipush 17, 2) := by decide +kernel
theorem dX2_changed_75 : decode cX2_changed 75 = .ok (.if_icmp .ge 33, 3) := by decide +kernel
theorem dX2_changed_78 : decode cX2_changed 78 = .ok (.aload 4, 2) := by decide +kernel
theorem dX2_changed_80 : decode cX2_changed 80 = .ok (.aload 5, 2) := by decide +kernel
theorem dX2_changed_82 : decode cX2_changed 82 = .ok (.iload 7, 2) := by decide +kernel
theorem dX2_changed_84 : decode cX2_changed 84 = .ok (.invokestatic 154, 3) := by decide +kernel
theorem dX2_changed_87 : decode cX2_changed 87 = .ok (.ifCond .eq 15, 3) := by decide +kernel
theorem dX2_changed_90 : decode cX2_changed 90 = .ok (.iload 6, 2) := by decide +kernel
theorem dX2_changed_92 : decode cX2_changed 92 = .ok (.iload_n 3, 1) := by decide +kernel
theorem dX2_changed_93 : decode cX2_changed 93 = .ok (.if_icmp .ne 6, 3) := by decide +kernel
theorem dX2_changed_96 : decode cX2_changed 96 = .ok (.iload 7, 2) := by decide +kernel
theorem dX2_changed_98 : decode cX2_changed 98 = .ok (.ireturn, 1) := by decide +kernel
theorem dX2_changed_99 : decode cX2_changed 99 = .ok (.iinc 6 1, 3) := by decide +kernel
theorem dX2_changed_102 : decode cX2_changed 102 = .ok (.iinc 7 1, 3) := by decide +kernel
theorem dX2_changed_105 : decode cX2_changed 105 = .ok (.goto (-34), 3) := by decide +kernel
theorem dX2_changed_108 : decode cX2_changed 108 = .ok (.bipush (-4), 2) := by decide +kernel
theorem dX2_changed_110 : decode cX2_changed 110 = .ok (.ireturn, 1) := by decide +kernel
theorem dX2_isSlot_0 : decode cX2_isSlot 0 = .ok (.iload_n 0, 1) := by decide +kernel
theorem dX2_isSlot_1 : decode cX2_isSlot 1 = .ok (.ifCond .lt 13, 3) := by decide +kernel
theorem dX2_isSlot_4 : decode cX2_isSlot 4 = .ok (.iload_n 0, 1) := by decide +kernel
theorem dX2_isSlot_5 : decode cX2_isSlot 5 = .ok (.bipush 12, 2) := by decide +kernel
theorem dX2_isSlot_7 : decode cX2_isSlot 7 = .ok (.if_icmp .ge 7, 3) := by decide +kernel
theorem dX2_isSlot_10 : decode cX2_isSlot 10 = .ok (.iconst 1, 1) := by decide +kernel
theorem dX2_isSlot_11 : decode cX2_isSlot 11 = .ok (.goto 4, 3) := by decide +kernel
theorem dX2_isSlot_14 : decode cX2_isSlot 14 = .ok (.iconst 0, 1) := by decide +kernel
theorem dX2_isSlot_15 : decode cX2_isSlot 15 = .ok (.ireturn, 1) := by decide +kernel
theorem dX2_isField_0 : decode cX2_isField 0 = .ok (.iload_n 0, 1) := by decide +kernel
theorem dX2_isField_1 : decode cX2_isField 1 = .ok (.ifCond .lt 13, 3) := by decide +kernel
theorem dX2_isField_4 : decode cX2_isField 4 = .ok (.iload_n 0, 1) := by decide +kernel
theorem dX2_isField_5 : decode cX2_isField 5 = .ok (.bipush 17, 2) := by decide +kernel
theorem dX2_isField_7 : decode cX2_isField 7 = .ok (.if_icmp .ge 7, 3) := by decide +kernel
theorem dX2_isField_10 : decode cX2_isField 10 = .ok (.iconst 1, 1) := by decide +kernel
theorem dX2_isField_11 : decode cX2_isField 11 = .ok (.goto 4, 3) := by decide +kernel
theorem dX2_isField_14 : decode cX2_isField 14 = .ok (.iconst 0, 1) := by decide +kernel
theorem dX2_isField_15 : decode cX2_isField 15 = .ok (.ireturn, 1) := by decide +kernel
set_option maxRecDepth 20000 in
theorem ggX2_isLinkField_X2_isField : GoodIn wsX2_isLinkField wsX2_isField := goodIn_r _ [5] rfl (by decide +kernel)
set_option maxRecDepth 20000 in
theorem gX2_isLinkField_X2_isField : GoodIn wsX2_isLinkField (va_wsS RX2 158 yX2_isField wsX2_isField) := goodIn_app (goodIn_r _ [2, 3, 4] rfl (by decide +kernel)) ggX2_isLinkField_X2_isField
theorem dX2_isLinkField_0 : decode cX2_isLinkField 0 = .ok (.iload_n 0, 1) := by decide +kernel
theorem dX2_isLinkField_1 : decode cX2_isLinkField 1 = .ok (.invokestatic 158, 3) := by decide +kernel
theorem dX2_isLinkField_4 : decode cX2_isLinkField 4 = .ok (.ifCond .eq 17, 3) := by decide +kernel
theorem dX2_isLinkField_7 : decode cX2_isLinkField 7 = .ok (.getstatic 161, 3) := by decide +kernel
theorem dX2_isLinkField_10 : decode cX2_isLinkField 10 = .ok (.iload_n 0, 1) := by decide +kernel
theorem dX2_isLinkField_11 : decode cX2_isLinkField 11 = .ok (.iaload, 1) := by decide +kernel
theorem dX2_isLinkField_12 : decode cX2_isLinkField 12 = .ok (.bipush 8, 2) := by decide +kernel
theorem dX2_isLinkField_14 : decode cX2_isLinkField 14 = .ok (.if_icmp .ne 7, 3) := by decide +kernel
theorem dX2_isLinkField_17 : decode cX2_isLinkField 17 = .ok (.iconst 1, 1) := by decide +kernel
theorem dX2_isLinkField_18 : decode cX2_isLinkField 18 = .ok (.goto 4, 3) := by decide +kernel
theorem dX2_isLinkField_21 : decode cX2_isLinkField 21 = .ok (.iconst 0, 1) := by decide +kernel
theorem dX2_isLinkField_22 : decode cX2_isLinkField 22 = .ok (.ireturn, 1) := by decide +kernel
set_option maxRecDepth 20000 in
theorem ggX2_isValueField_X2_isField : GoodIn wsX2_isValueField wsX2_isField := goodIn_r _ [5] rfl (by decide +kernel)
set_option maxRecDepth 20000 in
theorem gX2_isValueField_X2_isField : GoodIn wsX2_isValueField (va_wsS RX2 158 yX2_isField wsX2_isField) := goodIn_app (goodIn_r _ [2, 3, 4] rfl (by decide +kernel)) ggX2_isValueField_X2_isField
theorem dX2_isValueField_0 : decode cX2_isValueField 0 = .ok (.iload_n 0, 1) := by decide +kernel
theorem dX2_isValueField_1 : decode cX2_isValueField 1 = .ok (.invokestatic 158, 3) := by decide +kernel
theorem dX2_isValueField_4 : decode cX2_isValueField 4 = .ok (.ifCond .eq 27, 3) := by decide +kernel
theorem dX2_isValueField_7 : decode cX2_isValueField 7 = .ok (.getstatic 161, 3) := by decide +kernel
theorem dX2_isValueField_10 : decode cX2_isValueField 10 = .ok (.iload_n 0, 1) := by decide +kernel
theorem dX2_isValueField_11 : decode cX2_isValueField 11 = .ok (.iaload, 1) := by decide +kernel
theorem dX2_isValueField_12 : decode cX2_isValueField 12 = .ok (.bipush 8, 2) := by decide +kernel
theorem dX2_isValueField_14 : decode cX2_isValueField 14 = .ok (.if_icmp .eq 17, 3) := by decide +kernel
theorem dX2_isValueField_17 : decode cX2_isValueField 17 = .ok (.getstatic 161, 3) := by decide +kernel
theorem dX2_isValueField_20 : decode cX2_isValueField 20 = .ok (.iload_n 0, 1) := by decide +kernel
theorem dX2_isValueField_21 : decode cX2_isValueField 21 = .ok (.iaload, 1) := by decide +kernel
theorem dX2_isValueField_22 : decode cX2_isValueField 22 = .ok (.bipush 9, 2) := by decide +kernel
theorem dX2_isValueField_24 : decode cX2_isValueField 24 = .ok (.if_icmp .eq 7, 3) := by decide +kernel
theorem dX2_isValueField_27 : decode cX2_isValueField 27 = .ok (.iconst 1, 1) := by decide +kernel
theorem dX2_isValueField_28 : decode cX2_isValueField 28 = .ok (.goto 4, 3) := by decide +kernel
theorem dX2_isValueField_31 : decode cX2_isValueField 31 = .ok (.iconst 0, 1) := by decide +kernel
theorem dX2_isValueField_32 : decode cX2_isValueField 32 = .ok (.ireturn, 1) := by decide +kernel
theorem dX2_isFinal_0 : decode cX2_isFinal 0 = .ok (.iload_n 0, 1) := by decide +kernel
theorem dX2_isFinal_1 : decode cX2_isFinal 1 = .ok (.bipush 13, 2) := by decide +kernel
theorem dX2_isFinal_3 : decode cX2_isFinal 3 = .ok (.if_icmp .eq 9, 3) := by decide +kernel
theorem dX2_isFinal_6 : decode cX2_isFinal 6 = .ok (.iload_n 0, 1) := by decide +kernel
theorem dX2_isFinal_7 : decode cX2_isFinal 7 = .ok (.bipush 16, 2) := by decide +kernel
theorem dX2_isFinal_9 : decode cX2_isFinal 9 = .ok (.if_icmp .ne 7, 3) := by decide +kernel
theorem dX2_isFinal_12 : decode cX2_isFinal 12 = .ok (.iconst 1, 1) := by decide +kernel
theorem dX2_isFinal_13 : decode cX2_isFinal 13 = .ok (.goto 4, 3) := by decide +kernel
theorem dX2_isFinal_16 : decode cX2_isFinal 16 = .ok (.iconst 0, 1) := by decide +kernel
theorem dX2_isFinal_17 : decode cX2_isFinal 17 = .ok (.ireturn, 1) := by decide +kernel
theorem dX2_makerTakes_0 : decode cX2_makerTakes 0 = .ok (.iload_n 0, 1) := by decide +kernel
theorem dX2_makerTakes_1 : decode cX2_makerTakes 1 = .ok (.iconst 2, 1) := by decide +kernel
theorem dX2_makerTakes_2 : decode cX2_makerTakes 2 = .ok (.if_icmp .ne 14, 3) := by decide +kernel
theorem dX2_makerTakes_5 : decode cX2_makerTakes 5 = .ok (.iload_n 1, 1) := by decide +kernel
theorem dX2_makerTakes_6 : decode cX2_makerTakes 6 = .ok (.ifCond .lt 14, 3) := by decide +kernel
theorem dX2_makerTakes_9 : decode cX2_makerTakes 9 = .ok (.iload_n 1, 1) := by decide +kernel
theorem dX2_makerTakes_10 : decode cX2_makerTakes 10 = .ok (.sipush 1000, 3) := by decide +kernel
theorem dX2_makerTakes_13 : decode cX2_makerTakes 13 = .ok (.if_icmp .gt 7, 3) := by decide +kernel
theorem dX2_makerTakes_16 : decode cX2_makerTakes 16 = .ok (.iconst 1, 1) := by decide +kernel
theorem dX2_makerTakes_17 : decode cX2_makerTakes 17 = .ok (.goto 4, 3) := by decide +kernel
theorem dX2_makerTakes_20 : decode cX2_makerTakes 20 = .ok (.iconst 0, 1) := by decide +kernel
theorem dX2_makerTakes_21 : decode cX2_makerTakes 21 = .ok (.ireturn, 1) := by decide +kernel
theorem dX2_wantedIn_0 : decode cX2_wantedIn 0 = .ok (.iload_n 0, 1) := by decide +kernel
theorem dX2_wantedIn_1 : decode cX2_wantedIn 1 = .ok (.bipush 8, 2) := by decide +kernel
theorem dX2_wantedIn_3 : decode cX2_wantedIn 3 = .ok (.if_icmp .ne 5, 3) := by decide +kernel
theorem dX2_wantedIn_6 : decode cX2_wantedIn 6 = .ok (.iconst 0, 1) := by decide +kernel
theorem dX2_wantedIn_7 : decode cX2_wantedIn 7 = .ok (.ireturn, 1) := by decide +kernel
theorem dX2_wantedIn_8 : decode cX2_wantedIn 8 = .ok (.iload_n 0, 1) := by decide +kernel
theorem dX2_wantedIn_9 : decode cX2_wantedIn 9 = .ok (.bipush 11, 2) := by decide +kernel
theorem dX2_wantedIn_11 : decode cX2_wantedIn 11 = .ok (.if_icmp .ne 7, 3) := by decide +kernel
theorem dX2_wantedIn_14 : decode cX2_wantedIn 14 = .ok (.iconst 1, 1) := by decide +kernel
theorem dX2_wantedIn_15 : decode cX2_wantedIn 15 = .ok (.goto 4, 3) := by decide +kernel
theorem dX2_wantedIn_18 : decode cX2_wantedIn 18 = .ok (.iconst 5, 1) := by decide +kernel
theorem dX2_wantedIn_19 : decode cX2_wantedIn 19 = .ok (.ireturn, 1) := by decide +kernel
set_option maxRecDepth 20000 in
theorem ggX2_failureAs_X1_isOf : GoodIn wsX2_failureAs wsX1_isOf := goodIn_r _ [5, 6, 7, 8, 9, 10, 11, 12] rfl (by decide +kernel)
set_option maxRecDepth 20000 in
theorem gX2_failureAs_X1_isOf : GoodIn wsX2_failureAs (wsV RX2 49 RX1 yX1_isOf wsX1_isOf) := goodIn_app (goodIn_r _ [1, 2, 3, 4] rfl (by decide +kernel)) ggX2_failureAs_X1_isOf
theorem dX2_failureAs_0 : decode cX2_failureAs 0 = .ok (.aload_n 0, 1) := by decide +kernel
theorem dX2_failureAs_1 : decode cX2_failureAs 1 = .ok (.ifnonnull 6, 3) := by decide +kernel
theorem dX2_failureAs_4 : decode cX2_failureAs 4 = .ok (.bipush (-11), 2) := by decide +kernel
theorem dX2_failureAs_6 : decode cX2_failureAs 6 = .ok (.ireturn, 1) := by decide +kernel
theorem dX2_failureAs_7 : decode cX2_failureAs 7 = .ok (.aload_n 0, 1) := by decide +kernel
theorem dX2_failureAs_8 : decode cX2_failureAs 8 = .ok (.iload_n 1, 1) := by decide +kernel
theorem dX2_failureAs_9 : decode cX2_failureAs 9 = .ok (.invokevirtual 49, 3) := by decide +kernel
theorem dX2_failureAs_12 : decode cX2_failureAs 12 = .ok (.ifCond .eq 7, 3) := by decide +kernel
theorem dX2_failureAs_15 : decode cX2_failureAs 15 = .ok (.iconst 0, 1) := by decide +kernel
theorem dX2_failureAs_16 : decode cX2_failureAs 16 = .ok (.goto 5, 3) := by decide +kernel
theorem dX2_failureAs_19 : decode cX2_failureAs 19 = .ok (.bipush (-14), 2) := by decide +kernel
theorem dX2_failureAs_21 : decode cX2_failureAs 21 = .ok (.ireturn, 1) := by decide +kernel
set_option maxRecDepth 20000 in
theorem ggX2_failureOfRow_X2_failureAs : GoodIn wsX2_failureOfRow wsX2_failureAs := goodIn_r _ [5, 6, 7, 8, 9, 10, 11, 12, 13, 14, 15, 16, 17] rfl (by decide +kernel)
set_option maxRecDepth 20000 in
theorem gX2_failureOfRow_X2_failureAs : GoodIn wsX2_failureOfRow (va_wsS RX2 61 yX2_failureAs wsX2_failureAs) := goodIn_app (goodIn_r _ [2, 3, 4] rfl (by decide +kernel)) ggX2_failureOfRow_X2_failureAs
theorem dX2_failureOfRow_0 : decode cX2_failureOfRow 0 = .ok (.aload_n 0, 1) := by decide +kernel
theorem dX2_failureOfRow_1 : decode cX2_failureOfRow 1 = .ok (.iconst 0, 1) := by decide +kernel
theorem dX2_failureOfRow_2 : decode cX2_failureOfRow 2 = .ok (.invokestatic 61, 3) := by decide +kernel
theorem dX2_failureOfRow_5 : decode cX2_failureOfRow 5 = .ok (.istore_n 1, 1) := by decide +kernel
theorem dX2_failureOfRow_6 : decode cX2_failureOfRow 6 = .ok (.iload_n 1, 1) := by decide +kernel
theorem dX2_failureOfRow_7 : decode cX2_failureOfRow 7 = .ok (.ifCond .eq 5, 3) := by decide +kernel
theorem dX2_failureOfRow_10 : decode cX2_failureOfRow 10 = .ok (.iload_n 1, 1) := by decide +kernel
theorem dX2_failureOfRow_11 : decode cX2_failureOfRow 11 = .ok (.ireturn, 1) := by decide +kernel
theorem dX2_failureOfRow_12 : decode cX2_failureOfRow 12 = .ok (.aload_n 0, 1) := by decide +kernel
theorem dX2_failureOfRow_13 : decode cX2_failureOfRow 13 = .ok (.getfield 91, 3) := by decide +kernel
theorem dX2_failureOfRow_16 : decode cX2_failureOfRow 16 = .ok (.ifnonnull 8, 3) := by decide +kernel
theorem dX2_failureOfRow_19 : decode cX2_failureOfRow 19 = .ok (.bipush (-11), 2) := by decide +kernel
theorem dX2_failureOfRow_21 : decode cX2_failureOfRow 21 = .ok (.goto 4, 3) := by decide +kernel
theorem dX2_failureOfRow_24 : decode cX2_failureOfRow 24 = .ok (.iconst 0, 1) := by decide +kernel
theorem dX2_failureOfRow_25 : decode cX2_failureOfRow 25 = .ok (.ireturn, 1) := by decide +kernel
set_option maxRecDepth 20000 in
theorem ggX2_thrown_X2_failureAs : GoodIn wsX2_thrown wsX2_failureAs := goodIn_r _ [5, 6, 7, 8, 9, 10, 11, 12, 13, 14, 15, 16, 17] rfl (by decide +kernel)
set_option maxRecDepth 20000 in
theorem gX2_thrown_X2_failureAs : GoodIn wsX2_thrown (va_wsS RX2 61 yX2_failureAs wsX2_failureAs) := goodIn_app (goodIn_r _ [2, 3, 4] rfl (by decide +kernel)) ggX2_thrown_X2_failureAs
theorem dX2_thrown_0 : decode cX2_thrown 0 = .ok (.aload_n 0, 1) := by decide +kernel
theorem dX2_thrown_1 : decode cX2_thrown 1 = .ok (.iconst 4, 1) := by decide +kernel
theorem dX2_thrown_2 : decode cX2_thrown 2 = .ok (.invokestatic 61, 3) := by decide +kernel
theorem dX2_thrown_5 : decode cX2_thrown 5 = .ok (.istore_n 1, 1) := by decide +kernel
theorem dX2_thrown_6 : decode cX2_thrown 6 = .ok (.iload_n 1, 1) := by decide +kernel
theorem dX2_thrown_7 : decode cX2_thrown 7 = .ok (.ifCond .eq 7, 3) := by decide +kernel
theorem dX2_thrown_10 : decode cX2_thrown 10 = .ok (.iload_n 1, 1) := by decide +kernel
theorem dX2_thrown_11 : decode cX2_thrown 11 = .ok (.goto 11, 3) := by decide +kernel
theorem dX2_thrown_14 : decode cX2_thrown 14 = .ok (.aload_n 0, 1) := by decide +kernel
theorem dX2_thrown_15 : decode cX2_thrown 15 = .ok (.getfield 65, 3) := by decide +kernel
theorem dX2_thrown_18 : decode cX2_thrown 18 = .ok (.bipush 16, 2) := by decide +kernel
theorem dX2_thrown_20 : decode cX2_thrown 20 = .ok (.laload, 1) := by decide +kernel
theorem dX2_thrown_21 : decode cX2_thrown 21 = .ok (.l2i, 1) := by decide +kernel
theorem dX2_thrown_22 : decode cX2_thrown 22 = .ok (.ireturn, 1) := by decide +kernel
set_option maxRecDepth 20000 in
theorem ggX2_asTold_X2_floatAsTold : GoodIn wsX2_asTold wsX2_floatAsTold := goodIn_r _ [5, 6, 7, 8] rfl (by decide +kernel)
set_option maxRecDepth 20000 in
theorem gX2_asTold_X2_floatAsTold : GoodIn wsX2_asTold (va_wsS RX2 164 yX2_floatAsTold wsX2_floatAsTold) := goodIn_app (goodIn_r _ [2, 3, 4] rfl (by decide +kernel)) ggX2_asTold_X2_floatAsTold
set_option maxRecDepth 20000 in
theorem ggX2_asTold_X2_doubleAsTold : GoodIn wsX2_asTold wsX2_doubleAsTold := goodIn_r _ [11, 12, 13, 14] rfl (by decide +kernel)
set_option maxRecDepth 20000 in
theorem gX2_asTold_X2_doubleAsTold : GoodIn wsX2_asTold (va_wsS RX2 167 yX2_doubleAsTold wsX2_doubleAsTold) := goodIn_app (goodIn_r _ [9, 10, 4] rfl (by decide +kernel)) ggX2_asTold_X2_doubleAsTold
theorem dX2_asTold_0 : decode cX2_asTold 0 = .ok (.getstatic 161, 3) := by decide +kernel
theorem dX2_asTold_3 : decode cX2_asTold 3 = .ok (.iload_n 0, 1) := by decide +kernel
theorem dX2_asTold_4 : decode cX2_asTold 4 = .ok (.iaload, 1) := by decide +kernel
theorem dX2_asTold_5 : decode cX2_asTold 5 = .ok (.tableswitch 82 0 7 #[47, 51, 56, 61, 66, 82, 70, 77], 47) := by decide +kernel
theorem dX2_asTold_52 : decode cX2_asTold 52 = .ok (.lload_n 1, 1) := by decide +kernel
theorem dX2_asTold_53 : decode cX2_asTold 53 = .ok (.lconst 1, 1) := by decide +kernel
theorem dX2_asTold_54 : decode cX2_asTold 54 = .ok (.land, 1) := by decide +kernel
theorem dX2_asTold_55 : decode cX2_asTold 55 = .ok (.lreturn, 1) := by decide +kernel
theorem dX2_asTold_56 : decode cX2_asTold 56 = .ok (.lload_n 1, 1) := by decide +kernel
theorem dX2_asTold_57 : decode cX2_asTold 57 = .ok (.l2i, 1) := by decide +kernel
theorem dX2_asTold_58 : decode cX2_asTold 58 = .ok (.i2b, 1) := by decide +kernel
theorem dX2_asTold_59 : decode cX2_asTold 59 = .ok (.i2l, 1) := by decide +kernel
theorem dX2_asTold_60 : decode cX2_asTold 60 = .ok (.lreturn, 1) := by decide +kernel
theorem dX2_asTold_61 : decode cX2_asTold 61 = .ok (.lload_n 1, 1) := by decide +kernel
theorem dX2_asTold_62 : decode cX2_asTold 62 = .ok (.l2i, 1) := by decide +kernel
theorem dX2_asTold_63 : decode cX2_asTold 63 = .ok (.i2s, 1) := by decide +kernel
theorem dX2_asTold_64 : decode cX2_asTold 64 = .ok (.i2l, 1) := by decide +kernel
theorem dX2_asTold_65 : decode cX2_asTold 65 = .ok (.lreturn, 1) := by decide +kernel
theorem dX2_asTold_66 : decode cX2_asTold 66 = .ok (.lload_n 1, 1) := by decide +kernel
theorem dX2_asTold_67 : decode cX2_asTold 67 = .ok (.l2i, 1) := by decide +kernel
theorem dX2_asTold_68 : decode cX2_asTold 68 = .ok (.i2c, 1) := by decide +kernel
theorem dX2_asTold_69 : decode cX2_asTold 69 = .ok (.i2l, 1) := by decide +kernel
theorem dX2_asTold_70 : decode cX2_asTold 70 = .ok (.lreturn, 1) := by decide +kernel
theorem dX2_asTold_71 : decode cX2_asTold 71 = .ok (.lload_n 1, 1) := by decide +kernel
theorem dX2_asTold_72 : decode cX2_asTold 72 = .ok (.l2i, 1) := by decide +kernel
theorem dX2_asTold_73 : decode cX2_asTold 73 = .ok (.i2l, 1) := by decide +kernel
theorem dX2_asTold_74 : decode cX2_asTold 74 = .ok (.lreturn, 1) := by decide +kernel
theorem dX2_asTold_75 : decode cX2_asTold 75 = .ok (.lload_n 1, 1) := by decide +kernel
theorem dX2_asTold_76 : decode cX2_asTold 76 = .ok (.l2i, 1) := by decide +kernel
theorem dX2_asTold_77 : decode cX2_asTold 77 = .ok (.invokestatic 164, 3) := by decide +kernel
theorem dX2_asTold_80 : decode cX2_asTold 80 = .ok (.i2l, 1) := by decide +kernel
theorem dX2_asTold_81 : decode cX2_asTold 81 = .ok (.lreturn, 1) := by decide +kernel
theorem dX2_asTold_82 : decode cX2_asTold 82 = .ok (.lload_n 1, 1) := by decide +kernel
theorem dX2_asTold_83 : decode cX2_asTold 83 = .ok (.invokestatic 167, 3) := by decide +kernel
theorem dX2_asTold_86 : decode cX2_asTold 86 = .ok (.lreturn, 1) := by decide +kernel
theorem dX2_asTold_87 : decode cX2_asTold 87 = .ok (.lload_n 1, 1) := by decide +kernel
theorem dX2_asTold_88 : decode cX2_asTold 88 = .ok (.lreturn, 1) := by decide +kernel
theorem dX2_floatAsTold_0 : decode cX2_floatAsTold 0 = .ok (.iload_n 0, 1) := by decide +kernel
theorem dX2_floatAsTold_1 : decode cX2_floatAsTold 1 = .ok (.ldc 171, 2) := by decide +kernel
theorem dX2_floatAsTold_3 : decode cX2_floatAsTold 3 = .ok (.iand, 1) := by decide +kernel
theorem dX2_floatAsTold_4 : decode cX2_floatAsTold 4 = .ok (.ldc 172, 2) := by decide +kernel
theorem dX2_floatAsTold_6 : decode cX2_floatAsTold 6 = .ok (.if_icmp .le 8, 3) := by decide +kernel
theorem dX2_floatAsTold_9 : decode cX2_floatAsTold 9 = .ok (.ldc 173, 2) := by decide +kernel
theorem dX2_floatAsTold_11 : decode cX2_floatAsTold 11 = .ok (.goto 4, 3) := by decide +kernel
theorem dX2_floatAsTold_14 : decode cX2_floatAsTold 14 = .ok (.iload_n 0, 1) := by decide +kernel
theorem dX2_floatAsTold_15 : decode cX2_floatAsTold 15 = .ok (.ireturn, 1) := by decide +kernel
theorem dX2_doubleAsTold_0 : decode cX2_doubleAsTold 0 = .ok (.lload_n 0, 1) := by decide +kernel
theorem dX2_doubleAsTold_1 : decode cX2_doubleAsTold 1 = .ok (.ldc2_w 174, 3) := by decide +kernel
theorem dX2_doubleAsTold_4 : decode cX2_doubleAsTold 4 = .ok (.land, 1) := by decide +kernel
theorem dX2_doubleAsTold_5 : decode cX2_doubleAsTold 5 = .ok (.ldc2_w 176, 3) := by decide +kernel
theorem dX2_doubleAsTold_8 : decode cX2_doubleAsTold 8 = .ok (.lcmp, 1) := by decide +kernel
theorem dX2_doubleAsTold_9 : decode cX2_doubleAsTold 9 = .ok (.ifCond .le 9, 3) := by decide +kernel
theorem dX2_doubleAsTold_12 : decode cX2_doubleAsTold 12 = .ok (.ldc2_w 178, 3) := by decide +kernel
theorem dX2_doubleAsTold_15 : decode cX2_doubleAsTold 15 = .ok (.goto 4, 3) := by decide +kernel
theorem dX2_doubleAsTold_18 : decode cX2_doubleAsTold 18 = .ok (.lload_n 0, 1) := by decide +kernel
theorem dX2_doubleAsTold_19 : decode cX2_doubleAsTold 19 = .ok (.lreturn, 1) := by decide +kernel
set_option maxRecDepth 20000 in
theorem ggX2_differ_X1_held : GoodIn wsX2_differ wsX1_held := goodIn_r _ [8, 9, 10, 11, 16, 17, 18, 19, 20, 21] rfl (by decide +kernel)
set_option maxRecDepth 20000 in
theorem gX2_differ_X1_held : GoodIn wsX2_differ (wsV RX2 87 RX1 yX1_held wsX1_held) := goodIn_app (goodIn_r _ [4, 5, 6, 7] rfl (by decide +kernel)) ggX2_differ_X1_held
set_option maxRecDepth 20000 in
theorem ggX2_differ_X2_differInInts : GoodIn wsX2_differ wsX2_differInInts := goodIn_r _ [15] rfl (by decide +kernel)
set_option maxRecDepth 20000 in
theorem gX2_differ_X2_differInInts : GoodIn wsX2_differ (va_wsS RX2 180 yX2_differInInts wsX2_differInInts) := goodIn_app (goodIn_r _ [12, 13, 14] rfl (by decide +kernel)) ggX2_differ_X2_differInInts
