theorem dX2_init_0 : decode cX2_init 0 = .ok (.aload_n 0, 1) := by decide +kernel
theorem dX2_init_1 : decode cX2_init 1 = .ok (.invokespecial 1, 3) := by decide +kernel
theorem dX2_init_4 : decode cX2_init 4 = .ok (.aload_n 0, 1) := by decide +kernel
theorem dX2_init_5 : decode cX2_init 5 = .ok (.bipush 12, 2) := by decide +kernel
theorem dX2_init_7 : decode cX2_init 7 = .ok (.anewarray 9, 3) := by decide +kernel
theorem dX2_init_10 : decode cX2_init 10 = .ok (.putfield 11, 3) := by decide +kernel
theorem dX2_init_13 : decode cX2_init 13 = .ok (.aload_n 0, 1) := by decide +kernel
theorem dX2_init_14 : decode cX2_init 14 = .ok (.new 15, 3) := by decide +kernel
theorem dX2_init_17 : decode cX2_init 17 = .ok (.dup, 1) := by decide +kernel
theorem dX2_init_18 : decode cX2_init 18 = .ok (.invokespecial 17, 3) := by decide +kernel
theorem dX2_init_21 : decode cX2_init 21 = .ok (.putfield 18, 3) := by decide +kernel
theorem dX2_init_24 : decode cX2_init 24 = .ok (.aload_n 0, 1) := by decide +kernel
theorem dX2_init_25 : decode cX2_init 25 = .ok (.new 15, 3) := by decide +kernel
theorem dX2_init_28 : decode cX2_init 28 = .ok (.dup, 1) := by decide +kernel
theorem dX2_init_29 : decode cX2_init 29 = .ok (.invokespecial 17, 3) := by decide +kernel
theorem dX2_init_32 : decode cX2_init 32 = .ok (.putfield 22, 3) := by decide +kernel
theorem dX2_init_35 : decode cX2_init 35 = .ok (.aload_n 0, 1) := by decide +kernel
theorem dX2_init_36 : decode cX2_init 36 = .ok (.new 15, 3) := by decide +kernel
theorem dX2_init_39 : decode cX2_init 39 = .ok (.dup, 1) := by decide +kernel
theorem dX2_init_40 : decode cX2_init 40 = .ok (.invokespecial 17, 3) := by decide +kernel
theorem dX2_init_43 : decode cX2_init 43 = .ok (.putfield 25, 3) := by decide +kernel
theorem dX2_init_46 : decode cX2_init 46 = .ok (.aload_n 0, 1) := by decide +kernel
theorem dX2_init_47 : decode cX2_init 47 = .ok (.bipush 24, 2) := by decide +kernel
theorem dX2_init_49 : decode cX2_init 49 = .ok (.anewarray 9, 3) := by decide +kernel
theorem dX2_init_52 : decode cX2_init 52 = .ok (.putfield 28, 3) := by decide +kernel
theorem dX2_init_55 : decode cX2_init 55 = .ok (.aload_n 0, 1) := by decide +kernel
theorem dX2_init_56 : decode cX2_init 56 = .ok (.bipush 24, 2) := by decide +kernel
theorem dX2_init_58 : decode cX2_init 58 = .ok (.anewarray 9, 3) := by decide +kernel
theorem dX2_init_61 : decode cX2_init 61 = .ok (.putfield 31, 3) := by decide +kernel
theorem dX2_init_64 : decode cX2_init 64 = .ok (.return_, 1) := by decide +kernel
set_option maxRecDepth 20000 in
theorem ggX2_make_X2_isSlot : GoodIn wsX2_make wsX2_isSlot := goodIn_r _ [8] rfl (by decide +kernel)
set_option maxRecDepth 20000 in
theorem gX2_make_X2_isSlot : GoodIn wsX2_make (va_wsS RX2 34 yX2_isSlot wsX2_isSlot) := goodIn_app (goodIn_r _ [5, 6, 7] rfl (by decide +kernel)) ggX2_make_X2_isSlot
set_option maxRecDepth 20000 in
theorem ggX2_make_X2_makerTakes : GoodIn wsX2_make wsX2_makerTakes := goodIn_r _ [11] rfl (by decide +kernel)
set_option maxRecDepth 20000 in
theorem gX2_make_X2_makerTakes : GoodIn wsX2_make (va_wsS RX2 38 yX2_makerTakes wsX2_makerTakes) := goodIn_app (goodIn_r _ [9, 10, 7] rfl (by decide +kernel)) ggX2_make_X2_makerTakes
set_option maxRecDepth 20000 in
theorem ggX2_make_X1_init : GoodIn wsX2_make wsX1_init := goodIn_r _ [14, 15, 16, 17, 18, 19, 20, 30, 31, 32, 33, 34, 35] rfl (by decide +kernel)
set_option maxRecDepth 20000 in
theorem gX2_make_X1_init : GoodIn wsX2_make (wsX1_init) := ggX2_make_X1_init
theorem dX2_make_0 : decode cX2_make 0 = .ok (.iload_n 1, 1) := by decide +kernel
theorem dX2_make_1 : decode cX2_make 1 = .ok (.invokestatic 34, 3) := by decide +kernel
theorem dX2_make_4 : decode cX2_make 4 = .ok (.ifCond .eq 12, 3) := by decide +kernel
theorem dX2_make_7 : decode cX2_make 7 = .ok (.iload_n 2, 1) := by decide +kernel
theorem dX2_make_8 : decode cX2_make 8 = .ok (.ifCond .lt 8, 3) := by decide +kernel
theorem dX2_make_11 : decode cX2_make 11 = .ok (.iload_n 2, 1) := by decide +kernel
theorem dX2_make_12 : decode cX2_make 12 = .ok (.iconst 4, 1) := by decide +kernel
theorem dX2_make_13 : decode cX2_make 13 = .ok (.if_icmp .le 5, 3) := by decide +kernel
theorem dX2_make_16 : decode cX2_make 16 = .ok (.iconst (-1), 1) := by decide +kernel
theorem dX2_make_17 : decode cX2_make 17 = .ok (.ireturn, 1) := by decide +kernel
theorem dX2_make_18 : decode cX2_make 18 = .ok (.iload_n 2, 1) := by decide +kernel
theorem dX2_make_19 : decode cX2_make 19 = .ok (.iload_n 3, 1) := by decide +kernel
theorem dX2_make_20 : decode cX2_make 20 = .ok (.invokestatic 38, 3) := by decide +kernel
theorem dX2_make_23 : decode cX2_make 23 = .ok (.ifCond .ne 6, 3) := by decide +kernel
theorem dX2_make_26 : decode cX2_make 26 = .ok (.bipush (-18), 2) := by decide +kernel
theorem dX2_make_28 : decode cX2_make 28 = .ok (.ireturn, 1) := by decide +kernel
theorem dX2_make_29 : decode cX2_make 29 = .ok (.aload_n 0, 1) := by decide +kernel
theorem dX2_make_30 : decode cX2_make 30 = .ok (.getfield 11, 3) := by decide +kernel
theorem dX2_make_33 : decode cX2_make 33 = .ok (.iload_n 1, 1) := by decide +kernel
theorem dX2_make_34 : decode cX2_make 34 = .ok (.new 9, 3) := by decide +kernel
theorem dX2_make_37 : decode cX2_make 37 = .ok (.dup, 1) := by decide +kernel
theorem dX2_make_38 : decode cX2_make 38 = .ok (.iload_n 2, 1) := by decide +kernel
theorem dX2_make_39 : decode cX2_make 39 = .ok (.iload_n 3, 1) := by decide +kernel
theorem dX2_make_40 : decode cX2_make 40 = .ok (.invokespecial 42, 3) := by decide +kernel
theorem dX2_make_43 : decode cX2_make 43 = .ok (.aastore, 1) := by decide +kernel
theorem dX2_make_44 : decode cX2_make 44 = .ok (.iconst 1, 1) := by decide +kernel
theorem dX2_make_45 : decode cX2_make 45 = .ok (.ireturn, 1) := by decide +kernel
set_option maxRecDepth 20000 in
theorem ggX2_clear_X2_isSlot : GoodIn wsX2_clear wsX2_isSlot := goodIn_r _ [5] rfl (by decide +kernel)
set_option maxRecDepth 20000 in
theorem gX2_clear_X2_isSlot : GoodIn wsX2_clear (va_wsS RX2 34 yX2_isSlot wsX2_isSlot) := goodIn_app (goodIn_r _ [2, 3, 4] rfl (by decide +kernel)) ggX2_clear_X2_isSlot
theorem dX2_clear_0 : decode cX2_clear 0 = .ok (.iload_n 1, 1) := by decide +kernel
theorem dX2_clear_1 : decode cX2_clear 1 = .ok (.invokestatic 34, 3) := by decide +kernel
theorem dX2_clear_4 : decode cX2_clear 4 = .ok (.ifCond .ne 5, 3) := by decide +kernel
theorem dX2_clear_7 : decode cX2_clear 7 = .ok (.iconst (-1), 1) := by decide +kernel
theorem dX2_clear_8 : decode cX2_clear 8 = .ok (.ireturn, 1) := by decide +kernel
theorem dX2_clear_9 : decode cX2_clear 9 = .ok (.aload_n 0, 1) := by decide +kernel
theorem dX2_clear_10 : decode cX2_clear 10 = .ok (.getfield 11, 3) := by decide +kernel
theorem dX2_clear_13 : decode cX2_clear 13 = .ok (.iload_n 1, 1) := by decide +kernel
theorem dX2_clear_14 : decode cX2_clear 14 = .ok (.aaload, 1) := by decide +kernel
theorem dX2_clear_15 : decode cX2_clear 15 = .ok (.ifnonnull 7, 3) := by decide +kernel
theorem dX2_clear_18 : decode cX2_clear 18 = .ok (.iconst 0, 1) := by decide +kernel
theorem dX2_clear_19 : decode cX2_clear 19 = .ok (.goto 4, 3) := by decide +kernel
theorem dX2_clear_22 : decode cX2_clear 22 = .ok (.iconst 1, 1) := by decide +kernel
theorem dX2_clear_23 : decode cX2_clear 23 = .ok (.istore_n 2, 1) := by decide +kernel
theorem dX2_clear_24 : decode cX2_clear 24 = .ok (.aload_n 0, 1) := by decide +kernel
theorem dX2_clear_25 : decode cX2_clear 25 = .ok (.getfield 11, 3) := by decide +kernel
theorem dX2_clear_28 : decode cX2_clear 28 = .ok (.iload_n 1, 1) := by decide +kernel
theorem dX2_clear_29 : decode cX2_clear 29 = .ok (.aconst_null, 1) := by decide +kernel
theorem dX2_clear_30 : decode cX2_clear 30 = .ok (.aastore, 1) := by decide +kernel
theorem dX2_clear_31 : decode cX2_clear 31 = .ok (.iload_n 2, 1) := by decide +kernel
theorem dX2_clear_32 : decode cX2_clear 32 = .ok (.ireturn, 1) := by decide +kernel
set_option maxRecDepth 20000 in
theorem ggX2_share_X2_isSlot : GoodIn wsX2_share wsX2_isSlot := goodIn_r _ [5] rfl (by decide +kernel)
set_option maxRecDepth 20000 in
theorem gX2_share_X2_isSlot : GoodIn wsX2_share (va_wsS RX2 34 yX2_isSlot wsX2_isSlot) := goodIn_app (goodIn_r _ [2, 3, 4] rfl (by decide +kernel)) ggX2_share_X2_isSlot
theorem dX2_share_0 : decode cX2_share 0 = .ok (.iload_n 1, 1) := by decide +kernel
theorem dX2_share_1 : decode cX2_share 1 = .ok (.invokestatic 34, 3) := by decide +kernel
theorem dX2_share_4 : decode cX2_share 4 = .ok (.ifCond .eq 10, 3) := by decide +kernel
theorem dX2_share_7 : decode cX2_share 7 = .ok (.iload_n 2, 1) := by decide +kernel
theorem dX2_share_8 : decode cX2_share 8 = .ok (.invokestatic 34, 3) := by decide +kernel
theorem dX2_share_11 : decode cX2_share 11 = .ok (.ifCond .ne 5, 3) := by decide +kernel
theorem dX2_share_14 : decode cX2_share 14 = .ok (.iconst (-1), 1) := by decide +kernel
theorem dX2_share_15 : decode cX2_share 15 = .ok (.ireturn, 1) := by decide +kernel
theorem dX2_share_16 : decode cX2_share 16 = .ok (.aload_n 0, 1) := by decide +kernel
theorem dX2_share_17 : decode cX2_share 17 = .ok (.getfield 11, 3) := by decide +kernel
theorem dX2_share_20 : decode cX2_share 20 = .ok (.iload_n 2, 1) := by decide +kernel
theorem dX2_share_21 : decode cX2_share 21 = .ok (.aload_n 0, 1) := by decide +kernel
theorem dX2_share_22 : decode cX2_share 22 = .ok (.getfield 11, 3) := by decide +kernel
theorem dX2_share_25 : decode cX2_share 25 = .ok (.iload_n 1, 1) := by decide +kernel
theorem dX2_share_26 : decode cX2_share 26 = .ok (.aaload, 1) := by decide +kernel
theorem dX2_share_27 : decode cX2_share 27 = .ok (.aastore, 1) := by decide +kernel
theorem dX2_share_28 : decode cX2_share 28 = .ok (.iconst 1, 1) := by decide +kernel
theorem dX2_share_29 : decode cX2_share 29 = .ok (.ireturn, 1) := by decide +kernel
set_option maxRecDepth 20000 in
theorem ggX2_same_X2_isSlot : GoodIn wsX2_same wsX2_isSlot := goodIn_r _ [5] rfl (by decide +kernel)
set_option maxRecDepth 20000 in
theorem gX2_same_X2_isSlot : GoodIn wsX2_same (va_wsS RX2 34 yX2_isSlot wsX2_isSlot) := goodIn_app (goodIn_r _ [2, 3, 4] rfl (by decide +kernel)) ggX2_same_X2_isSlot
theorem dX2_same_0 : decode cX2_same 0 = .ok (.iload_n 1, 1) := by decide +kernel
theorem dX2_same_1 : decode cX2_same 1 = .ok (.invokestatic 34, 3) := by decide +kernel
theorem dX2_same_4 : decode cX2_same 4 = .ok (.ifCond .eq 10, 3) := by decide +kernel
theorem dX2_same_7 : decode cX2_same 7 = .ok (.iload_n 2, 1) := by decide +kernel
theorem dX2_same_8 : decode cX2_same 8 = .ok (.invokestatic 34, 3) := by decide +kernel
theorem dX2_same_11 : decode cX2_same 11 = .ok (.ifCond .ne 5, 3) := by decide +kernel
theorem dX2_same_14 : decode cX2_same 14 = .ok (.iconst (-1), 1) := by decide +kernel
theorem dX2_same_15 : decode cX2_same 15 = .ok (.ireturn, 1) := by decide +kernel
theorem dX2_same_16 : decode cX2_same 16 = .ok (.aload_n 0, 1) := by decide +kernel
theorem dX2_same_17 : decode cX2_same 17 = .ok (.getfield 11, 3) := by decide +kernel
theorem dX2_same_20 : decode cX2_same 20 = .ok (.iload_n 1, 1) := by decide +kernel
theorem dX2_same_21 : decode cX2_same 21 = .ok (.aaload, 1) := by decide +kernel
theorem dX2_same_22 : decode cX2_same 22 = .ok (.aload_n 0, 1) := by decide +kernel
theorem dX2_same_23 : decode cX2_same 23 = .ok (.getfield 11, 3) := by decide +kernel
theorem dX2_same_26 : decode cX2_same 26 = .ok (.iload_n 2, 1) := by decide +kernel
theorem dX2_same_27 : decode cX2_same 27 = .ok (.aaload, 1) := by decide +kernel
theorem dX2_same_28 : decode cX2_same 28 = .ok (.if_acmp .ne 7, 3) := by decide +kernel
theorem dX2_same_31 : decode cX2_same 31 = .ok (.iconst 1, 1) := by decide +kernel
theorem dX2_same_32 : decode cX2_same 32 = .ok (.goto 4, 3) := by decide +kernel
theorem dX2_same_35 : decode cX2_same 35 = .ok (.iconst 0, 1) := by decide +kernel
theorem dX2_same_36 : decode cX2_same 36 = .ok (.ireturn, 1) := by decide +kernel
set_option maxRecDepth 20000 in
theorem ggX2_cls_X2_isSlot : GoodIn wsX2_cls wsX2_isSlot := goodIn_r _ [6] rfl (by decide +kernel)
set_option maxRecDepth 20000 in
theorem gX2_cls_X2_isSlot : GoodIn wsX2_cls (va_wsS RX2 34 yX2_isSlot wsX2_isSlot) := goodIn_app (goodIn_r _ [3, 4, 5] rfl (by decide +kernel)) ggX2_cls_X2_isSlot
theorem dX2_cls_0 : decode cX2_cls 0 = .ok (.iload_n 1, 1) := by decide +kernel
theorem dX2_cls_1 : decode cX2_cls 1 = .ok (.invokestatic 34, 3) := by decide +kernel
theorem dX2_cls_4 : decode cX2_cls 4 = .ok (.ifCond .ne 5, 3) := by decide +kernel
theorem dX2_cls_7 : decode cX2_cls 7 = .ok (.iconst (-1), 1) := by decide +kernel
theorem dX2_cls_8 : decode cX2_cls 8 = .ok (.ireturn, 1) := by decide +kernel
theorem dX2_cls_9 : decode cX2_cls 9 = .ok (.aload_n 0, 1) := by decide +kernel
theorem dX2_cls_10 : decode cX2_cls 10 = .ok (.getfield 11, 3) := by decide +kernel
theorem dX2_cls_13 : decode cX2_cls 13 = .ok (.iload_n 1, 1) := by decide +kernel
theorem dX2_cls_14 : decode cX2_cls 14 = .ok (.aaload, 1) := by decide +kernel
theorem dX2_cls_15 : decode cX2_cls 15 = .ok (.astore_n 2, 1) := by decide +kernel
theorem dX2_cls_16 : decode cX2_cls 16 = .ok (.aload_n 2, 1) := by decide +kernel
theorem dX2_cls_17 : decode cX2_cls 17 = .ok (.ifnonnull 8, 3) := by decide +kernel
theorem dX2_cls_20 : decode cX2_cls 20 = .ok (.bipush (-4), 2) := by decide +kernel
theorem dX2_cls_22 : decode cX2_cls 22 = .ok (.goto 7, 3) := by decide +kernel
theorem dX2_cls_25 : decode cX2_cls 25 = .ok (.aload_n 2, 1) := by decide +kernel
theorem dX2_cls_26 : decode cX2_cls 26 = .ok (.getfield 45, 3) := by decide +kernel
theorem dX2_cls_29 : decode cX2_cls 29 = .ok (.ireturn, 1) := by decide +kernel
set_option maxRecDepth 20000 in
theorem ggX2_is_X2_isSlot : GoodIn wsX2_is wsX2_isSlot := goodIn_r _ [5] rfl (by decide +kernel)
set_option maxRecDepth 20000 in
theorem gX2_is_X2_isSlot : GoodIn wsX2_is (va_wsS RX2 34 yX2_isSlot wsX2_isSlot) := goodIn_app (goodIn_r _ [2, 3, 4] rfl (by decide +kernel)) ggX2_is_X2_isSlot
set_option maxRecDepth 20000 in
theorem ggX2_is_X1_isOf : GoodIn wsX2_is wsX1_isOf := goodIn_r _ [10, 11, 21, 22, 23, 24, 25, 26] rfl (by decide +kernel)
set_option maxRecDepth 20000 in
theorem gX2_is_X1_isOf : GoodIn wsX2_is (wsV RX2 49 RX1 yX1_isOf wsX1_isOf) := goodIn_app (goodIn_r _ [6, 7, 8, 9] rfl (by decide +kernel)) ggX2_is_X1_isOf
theorem dX2_is_0 : decode cX2_is 0 = .ok (.iload_n 1, 1) := by decide +kernel
theorem dX2_is_1 : decode cX2_is 1 = .ok (.invokestatic 34, 3) := by decide +kernel
theorem dX2_is_4 : decode cX2_is 4 = .ok (.ifCond .eq 12, 3) := by decide +kernel
theorem dX2_is_7 : decode cX2_is 7 = .ok (.iload_n 2, 1) := by decide +kernel
theorem dX2_is_8 : decode cX2_is 8 = .ok (.ifCond .lt 8, 3) := by decide +kernel
theorem dX2_is_11 : decode cX2_is 11 = .ok (.iload_n 2, 1) := by decide +kernel
theorem dX2_is_12 : decode cX2_is 12 = .ok (.iconst 5, 1) := by decide +kernel
theorem dX2_is_13 : decode cX2_is 13 = .ok (.if_icmp .le 5, 3) := by decide +kernel
theorem dX2_is_16 : decode cX2_is 16 = .ok (.iconst (-1), 1) := by decide +kernel
theorem dX2_is_17 : decode cX2_is 17 = .ok (.ireturn, 1) := by decide +kernel
theorem dX2_is_18 : decode cX2_is 18 = .ok (.aload_n 0, 1) := by decide +kernel
theorem dX2_is_19 : decode cX2_is 19 = .ok (.getfield 11, 3) := by decide +kernel
theorem dX2_is_22 : decode cX2_is 22 = .ok (.iload_n 1, 1) := by decide +kernel
theorem dX2_is_23 : decode cX2_is 23 = .ok (.aaload, 1) := by decide +kernel
theorem dX2_is_24 : decode cX2_is 24 = .ok (.astore_n 3, 1) := by decide +kernel
theorem dX2_is_25 : decode cX2_is 25 = .ok (.aload_n 3, 1) := by decide +kernel
theorem dX2_is_26 : decode cX2_is 26 = .ok (.ifnull 15, 3) := by decide +kernel
theorem dX2_is_29 : decode cX2_is 29 = .ok (.aload_n 3, 1) := by decide +kernel
theorem dX2_is_30 : decode cX2_is 30 = .ok (.iload_n 2, 1) := by decide +kernel
theorem dX2_is_31 : decode cX2_is 31 = .ok (.invokevirtual 49, 3) := by decide +kernel
theorem dX2_is_34 : decode cX2_is 34 = .ok (.ifCond .eq 7, 3) := by decide +kernel
theorem dX2_is_37 : decode cX2_is 37 = .ok (.iconst 1, 1) := by decide +kernel
theorem dX2_is_38 : decode cX2_is 38 = .ok (.goto 4, 3) := by decide +kernel
theorem dX2_is_41 : decode cX2_is 41 = .ok (.iconst 0, 1) := by decide +kernel
theorem dX2_is_42 : decode cX2_is 42 = .ok (.ireturn, 1) := by decide +kernel
set_option maxRecDepth 20000 in
theorem ggX2_get_X2_isSlot : GoodIn wsX2_get wsX2_isSlot := goodIn_r _ [8] rfl (by decide +kernel)
set_option maxRecDepth 20000 in
theorem gX2_get_X2_isSlot : GoodIn wsX2_get (va_wsS RX2 34 yX2_isSlot wsX2_isSlot) := goodIn_app (goodIn_r _ [5, 6, 7] rfl (by decide +kernel)) ggX2_get_X2_isSlot
set_option maxRecDepth 20000 in
theorem ggX2_get_X2_isValueField : GoodIn wsX2_get wsX2_isValueField := goodIn_r _ [11, 12, 13, 14, 7, 15] rfl (by decide +kernel)
set_option maxRecDepth 20000 in
theorem gX2_get_X2_isValueField : GoodIn wsX2_get (va_wsS RX2 52 yX2_isValueField wsX2_isValueField) := goodIn_app (goodIn_r _ [9, 10, 7] rfl (by decide +kernel)) ggX2_get_X2_isValueField
set_option maxRecDepth 20000 in
theorem ggX2_get_X2_failureAs : GoodIn wsX2_get wsX2_failureAs := goodIn_r _ [18, 19, 20, 21, 22, 23, 24, 34, 35, 36, 37, 38, 39] rfl (by decide +kernel)
set_option maxRecDepth 20000 in
theorem gX2_get_X2_failureAs : GoodIn wsX2_get (va_wsS RX2 61 yX2_failureAs wsX2_failureAs) := goodIn_app (goodIn_r _ [16, 17, 7] rfl (by decide +kernel)) ggX2_get_X2_failureAs
theorem dX2_get_0 : decode cX2_get 0 = .ok (.iload_n 1, 1) := by decide +kernel
theorem dX2_get_1 : decode cX2_get 1 = .ok (.invokestatic 34, 3) := by decide +kernel
theorem dX2_get_4 : decode cX2_get 4 = .ok (.ifCond .eq 10, 3) := by decide +kernel
theorem dX2_get_7 : decode cX2_get 7 = .ok (.iload_n 2, 1) := by decide +kernel
theorem dX2_get_8 : decode cX2_get 8 = .ok (.invokestatic 52, 3) := by decide +kernel
theorem dX2_get_11 : decode cX2_get 11 = .ok (.ifCond .ne 7, 3) := by decide +kernel
theorem dX2_get_14 : decode cX2_get 14 = .ok (.ldc2_w 55, 3) := by decide +kernel
theorem dX2_get_17 : decode cX2_get 17 = .ok (.lreturn, 1) := by decide +kernel
theorem dX2_get_18 : decode cX2_get 18 = .ok (.aload_n 0, 1) := by decide +kernel
theorem dX2_get_19 : decode cX2_get 19 = .ok (.getfield 11, 3) := by decide +kernel
theorem dX2_get_22 : decode cX2_get 22 = .ok (.iload_n 1, 1) := by decide +kernel
theorem dX2_get_23 : decode cX2_get 23 = .ok (.aaload, 1) := by decide +kernel
theorem dX2_get_24 : decode cX2_get 24 = .ok (.astore_n 3, 1) := by decide +kernel
theorem dX2_get_25 : decode cX2_get 25 = .ok (.aload_n 3, 1) := by decide +kernel
theorem dX2_get_26 : decode cX2_get 26 = .ok (.getstatic 57, 3) := by decide +kernel
theorem dX2_get_29 : decode cX2_get 29 = .ok (.iload_n 2, 1) := by decide +kernel
theorem dX2_get_30 : decode cX2_get 30 = .ok (.iaload, 1) := by decide +kernel
theorem dX2_get_31 : decode cX2_get 31 = .ok (.invokestatic 61, 3) := by decide +kernel
theorem dX2_get_34 : decode cX2_get 34 = .ok (.istore 4, 2) := by decide +kernel
theorem dX2_get_36 : decode cX2_get 36 = .ok (.iload 4, 2) := by decide +kernel
theorem dX2_get_38 : decode cX2_get 38 = .ok (.ifCond .eq 9, 3) := by decide +kernel
theorem dX2_get_41 : decode cX2_get 41 = .ok (.iload 4, 2) := by decide +kernel
theorem dX2_get_43 : decode cX2_get 43 = .ok (.i2l, 1) := by decide +kernel
theorem dX2_get_44 : decode cX2_get 44 = .ok (.goto 9, 3) := by decide +kernel
theorem dX2_get_47 : decode cX2_get 47 = .ok (.aload_n 3, 1) := by decide +kernel
theorem dX2_get_48 : decode cX2_get 48 = .ok (.getfield 65, 3) := by decide +kernel
theorem dX2_get_51 : decode cX2_get 51 = .ok (.iload_n 2, 1) := by decide +kernel
theorem dX2_get_52 : decode cX2_get 52 = .ok (.laload, 1) := by decide +kernel
theorem dX2_get_53 : decode cX2_get 53 = .ok (.lreturn, 1) := by decide +kernel
set_option maxRecDepth 20000 in
theorem ggX2_set_X2_isSlot : GoodIn wsX2_set wsX2_isSlot := goodIn_r _ [7] rfl (by decide +kernel)
set_option maxRecDepth 20000 in
theorem gX2_set_X2_isSlot : GoodIn wsX2_set (va_wsS RX2 34 yX2_isSlot wsX2_isSlot) := goodIn_app (goodIn_r _ [4, 5, 6] rfl (by decide +kernel)) ggX2_set_X2_isSlot
set_option maxRecDepth 20000 in
theorem ggX2_set_X2_isValueField : GoodIn wsX2_set wsX2_isValueField := goodIn_r _ [10, 11, 12, 13, 6, 14] rfl (by decide +kernel)
set_option maxRecDepth 20000 in
theorem gX2_set_X2_isValueField : GoodIn wsX2_set (va_wsS RX2 52 yX2_isValueField wsX2_isValueField) := goodIn_app (goodIn_r _ [8, 9, 6] rfl (by decide +kernel)) ggX2_set_X2_isValueField
set_option maxRecDepth 20000 in
theorem ggX2_set_X2_failureAs : GoodIn wsX2_set wsX2_failureAs := goodIn_r _ [17, 18, 19, 20, 21, 22, 23, 51, 52, 53, 54, 55, 56] rfl (by decide +kernel)
set_option maxRecDepth 20000 in
theorem gX2_set_X2_failureAs : GoodIn wsX2_set (va_wsS RX2 61 yX2_failureAs wsX2_failureAs) := goodIn_app (goodIn_r _ [15, 16, 6] rfl (by decide +kernel)) ggX2_set_X2_failureAs
set_option maxRecDepth 20000 in
theorem ggX2_set_X2_isFinal : GoodIn wsX2_set wsX2_isFinal := goodIn_r _ [26] rfl (by decide +kernel)
set_option maxRecDepth 20000 in
theorem gX2_set_X2_isFinal : GoodIn wsX2_set (va_wsS RX2 69 yX2_isFinal wsX2_isFinal) := goodIn_app (goodIn_r _ [24, 25, 6] rfl (by decide +kernel)) ggX2_set_X2_isFinal
set_option maxRecDepth 20000 in
theorem ggX2_set_X2_asTold : GoodIn wsX2_set wsX2_asTold := goodIn_r _ [29, 11, 30, 31, 6, 32, 33, 34, 35, 36, 37, 38, 39, 40, 41] rfl (by decide +kernel)
set_option maxRecDepth 20000 in
theorem gX2_set_X2_asTold : GoodIn wsX2_set (va_wsS RX2 72 yX2_asTold wsX2_asTold) := goodIn_app (goodIn_r _ [27, 28, 6] rfl (by decide +kernel)) ggX2_set_X2_asTold
theorem dX2_set_0 : decode cX2_set 0 = .ok (.iload_n 1, 1) := by decide +kernel
theorem dX2_set_1 : decode cX2_set 1 = .ok (.invokestatic 34, 3) := by decide +kernel
theorem dX2_set_4 : decode cX2_set 4 = .ok (.ifCond .eq 10, 3) := by decide +kernel
theorem dX2_set_7 : decode cX2_set 7 = .ok (.iload_n 2, 1) := by decide +kernel
theorem dX2_set_8 : decode cX2_set 8 = .ok (.invokestatic 52, 3) := by decide +kernel
theorem dX2_set_11 : decode cX2_set 11 = .ok (.ifCond .ne 5, 3) := by decide +kernel
theorem dX2_set_14 : decode cX2_set 14 = .ok (.iconst (-1), 1) := by decide +kernel
theorem dX2_set_15 : decode cX2_set 15 = .ok (.ireturn, 1) := by decide +kernel
theorem dX2_set_16 : decode cX2_set 16 = .ok (.aload_n 0, 1) := by decide +kernel
theorem dX2_set_17 : decode cX2_set 17 = .ok (.getfield 11, 3) := by decide +kernel
theorem dX2_set_20 : decode cX2_set 20 = .ok (.iload_n 1, 1) := by decide +kernel
theorem dX2_set_21 : decode cX2_set 21 = .ok (.aaload, 1) := by decide +kernel
theorem dX2_set_22 : decode cX2_set 22 = .ok (.astore 5, 2) := by decide +kernel
theorem dX2_set_24 : decode cX2_set 24 = .ok (.aload 5, 2) := by decide +kernel
theorem dX2_set_26 : decode cX2_set 26 = .ok (.getstatic 57, 3) := by decide +kernel
theorem dX2_set_29 : decode cX2_set 29 = .ok (.iload_n 2, 1) := by decide +kernel
theorem dX2_set_30 : decode cX2_set 30 = .ok (.iaload, 1) := by decide +kernel
theorem dX2_set_31 : decode cX2_set 31 = .ok (.invokestatic 61, 3) := by decide +kernel
theorem dX2_set_34 : decode cX2_set 34 = .ok (.istore 6, 2) := by decide +kernel
theorem dX2_set_36 : decode cX2_set 36 = .ok (.iload 6, 2) := by decide +kernel
theorem dX2_set_38 : decode cX2_set 38 = .ok (.ifCond .eq 6, 3) := by decide +kernel
theorem dX2_set_41 : decode cX2_set 41 = .ok (.iload 6, 2) := by decide +kernel
theorem dX2_set_43 : decode cX2_set 43 = .ok (.ireturn, 1) := by decide +kernel
theorem dX2_set_44 : decode cX2_set 44 = .ok (.iload_n 2, 1) := by decide +kernel
theorem dX2_set_45 : decode cX2_set 45 = .ok (.invokestatic 69, 3) := by decide +kernel
theorem dX2_set_48 : decode cX2_set 48 = .ok (.ifCond .eq 6, 3) := by decide +kernel
theorem dX2_set_51 : decode cX2_set 51 = .ok (.bipush (-17), 2) := by decide +kernel
theorem dX2_set_53 : decode cX2_set 53 = .ok (.ireturn, 1) := by decide +kernel
theorem dX2_set_54 : decode cX2_set 54 = .ok (.aload 5, 2) := by decide +kernel
theorem dX2_set_56 : decode cX2_set 56 = .ok (.getfield 65, 3) := by decide +kernel
theorem dX2_set_59 : decode cX2_set 59 = .ok (.iload_n 2, 1) := by decide +kernel
theorem dX2_set_60 : decode cX2_set 60 = .ok (.iload_n 2, 1) := by decide +kernel
theorem dX2_set_61 : decode cX2_set 61 = .ok (.lload_n 3, 1) := by decide +kernel
theorem dX2_set_62 : decode cX2_set 62 = .ok (.invokestatic 72, 3) := by decide +kernel
theorem dX2_set_65 : decode cX2_set 65 = .ok (.lastore, 1) := by decide +kernel
theorem dX2_set_66 : decode cX2_set 66 = .ok (.iconst 1, 1) := by decide +kernel
theorem dX2_set_67 : decode cX2_set 67 = .ok (.ireturn, 1) := by decide +kernel
set_option maxRecDepth 20000 in
theorem ggX2_link_X2_isSlot : GoodIn wsX2_link wsX2_isSlot := goodIn_r _ [6] rfl (by decide +kernel)
set_option maxRecDepth 20000 in
theorem gX2_link_X2_isSlot : GoodIn wsX2_link (va_wsS RX2 34 yX2_isSlot wsX2_isSlot) := goodIn_app (goodIn_r _ [3, 4, 5] rfl (by decide +kernel)) ggX2_link_X2_isSlot
set_option maxRecDepth 20000 in
theorem ggX2_link_X2_isLinkField : GoodIn wsX2_link wsX2_isLinkField := goodIn_r _ [9, 10, 11, 12, 5, 13] rfl (by decide +kernel)
set_option maxRecDepth 20000 in
theorem gX2_link_X2_isLinkField : GoodIn wsX2_link (va_wsS RX2 76 yX2_isLinkField wsX2_isLinkField) := goodIn_app (goodIn_r _ [7, 8, 5] rfl (by decide +kernel)) ggX2_link_X2_isLinkField
set_option maxRecDepth 20000 in
theorem ggX2_link_X1_isOf : GoodIn wsX2_link wsX1_isOf := goodIn_r _ [18, 19, 39, 40, 41, 42, 43, 44] rfl (by decide +kernel)
set_option maxRecDepth 20000 in
theorem gX2_link_X1_isOf : GoodIn wsX2_link (wsV RX2 49 RX1 yX1_isOf wsX1_isOf) := goodIn_app (goodIn_r _ [14, 15, 16, 17] rfl (by decide +kernel)) ggX2_link_X1_isOf
set_option maxRecDepth 20000 in
theorem ggX2_link_X2_wantedIn : GoodIn wsX2_link wsX2_wantedIn := goodIn_r _ [22] rfl (by decide +kernel)
set_option maxRecDepth 20000 in
theorem gX2_link_X2_wantedIn : GoodIn wsX2_link (va_wsS RX2 79 yX2_wantedIn wsX2_wantedIn) := goodIn_app (goodIn_r _ [20, 21, 5] rfl (by decide +kernel)) ggX2_link_X2_wantedIn
set_option maxRecDepth 20000 in
theorem ggX2_link_X1_hold : GoodIn wsX2_link wsX1_hold := goodIn_r _ [26, 27, 28, 29, 39, 40, 41, 42, 43, 44] rfl (by decide +kernel)
set_option maxRecDepth 20000 in
theorem gX2_link_X1_hold : GoodIn wsX2_link (wsV RX2 83 RX1 yX1_hold wsX1_hold) := goodIn_app (goodIn_r _ [23, 24, 25, 17] rfl (by decide +kernel)) ggX2_link_X1_hold
theorem dX2_link_0 : decode cX2_link 0 = .ok (.iload_n 1, 1) := by decide +kernel
theorem dX2_link_1 : decode cX2_link 1 = .ok (.invokestatic 34, 3) := by decide +kernel
theorem dX2_link_4 : decode cX2_link 4 = .ok (.ifCond .eq 17, 3) := by decide +kernel
theorem dX2_link_7 : decode cX2_link 7 = .ok (.iload_n 2, 1) := by decide +kernel
theorem dX2_link_8 : decode cX2_link 8 = .ok (.invokestatic 76, 3) := by decide +kernel
theorem dX2_link_11 : decode cX2_link 11 = .ok (.ifCond .eq 10, 3) := by decide +kernel
theorem dX2_link_14 : decode cX2_link 14 = .ok (.iload_n 3, 1) := by decide +kernel
theorem dX2_link_15 : decode cX2_link 15 = .ok (.invokestatic 34, 3) := by decide +kernel
theorem dX2_link_18 : decode cX2_link 18 = .ok (.ifCond .ne 5, 3) := by decide +kernel
theorem dX2_link_21 : decode cX2_link 21 = .ok (.iconst (-1), 1) := by decide +kernel
theorem dX2_link_22 : decode cX2_link 22 = .ok (.ireturn, 1) := by decide +kernel
theorem dX2_link_23 : decode cX2_link 23 = .ok (.aload_n 0, 1) := by decide +kernel
theorem dX2_link_24 : decode cX2_link 24 = .ok (.getfield 11, 3) := by decide +kernel
theorem dX2_link_27 : decode cX2_link 27 = .ok (.iload_n 1, 1) := by decide +kernel
theorem dX2_link_28 : decode cX2_link 28 = .ok (.aaload, 1) := by decide +kernel
theorem dX2_link_29 : decode cX2_link 29 = .ok (.astore 4, 2) := by decide +kernel
theorem dX2_link_31 : decode cX2_link 31 = .ok (.aload_n 0, 1) := by decide +kernel
theorem dX2_link_32 : decode cX2_link 32 = .ok (.getfield 11, 3) := by decide +kernel
theorem dX2_link_35 : decode cX2_link 35 = .ok (.iload_n 3, 1) := by decide +kernel
theorem dX2_link_36 : decode cX2_link 36 = .ok (.aaload, 1) := by decide +kernel
theorem dX2_link_37 : decode cX2_link 37 = .ok (.astore 5, 2) := by decide +kernel
theorem dX2_link_39 : decode cX2_link 39 = .ok (.aload 4, 2) := by decide +kernel
theorem dX2_link_41 : decode cX2_link 41 = .ok (.ifnull 19, 3) := by decide +kernel
theorem dX2_link_44 : decode cX2_link 44 = .ok (.aload 4, 2) := by decide +kernel
theorem dX2_link_46 : decode cX2_link 46 = .ok (.getstatic 57, 3) := by decide +kernel
theorem dX2_link_49 : decode cX2_link 49 = .ok (.iload_n 2, 1) := by decide +kernel
theorem dX2_link_50 : decode cX2_link 50 = .ok (.iaload, 1) := by decide +kernel
theorem dX2_link_51 : decode cX2_link 51 = .ok (.invokevirtual 49, 3) := by decide +kernel
theorem dX2_link_54 : decode cX2_link 54 = .ok (.ifCond .ne 6, 3) := by decide +kernel
theorem dX2_link_57 : decode cX2_link 57 = .ok (.bipush (-14), 2) := by decide +kernel
theorem dX2_link_59 : decode cX2_link 59 = .ok (.ireturn, 1) := by decide +kernel
theorem dX2_link_60 : decode cX2_link 60 = .ok (.aload 5, 2) := by decide +kernel
theorem dX2_link_62 : decode cX2_link 62 = .ok (.ifnull 18, 3) := by decide +kernel
theorem dX2_link_65 : decode cX2_link 65 = .ok (.aload 5, 2) := by decide +kernel
theorem dX2_link_67 : decode cX2_link 67 = .ok (.iload_n 2, 1) := by decide +kernel
theorem dX2_link_68 : decode cX2_link 68 = .ok (.invokestatic 79, 3) := by decide +kernel
theorem dX2_link_71 : decode cX2_link 71 = .ok (.invokevirtual 49, 3) := by decide +kernel
theorem dX2_link_74 : decode cX2_link 74 = .ok (.ifCond .ne 6, 3) := by decide +kernel
theorem dX2_link_77 : decode cX2_link 77 = .ok (.bipush (-14), 2) := by decide +kernel
theorem dX2_link_79 : decode cX2_link 79 = .ok (.ireturn, 1) := by decide +kernel
theorem dX2_link_80 : decode cX2_link 80 = .ok (.aload 4, 2) := by decide +kernel
theorem dX2_link_82 : decode cX2_link 82 = .ok (.ifnonnull 6, 3) := by decide +kernel
theorem dX2_link_85 : decode cX2_link 85 = .ok (.bipush (-11), 2) := by decide +kernel
theorem dX2_link_87 : decode cX2_link 87 = .ok (.ireturn, 1) := by decide +kernel
theorem dX2_link_88 : decode cX2_link 88 = .ok (.aload 4, 2) := by decide +kernel
theorem dX2_link_90 : decode cX2_link 90 = .ok (.iload_n 2, 1) := by decide +kernel
theorem dX2_link_91 : decode cX2_link 91 = .ok (.aload 5, 2) := by decide +kernel
theorem dX2_link_93 : decode cX2_link 93 = .ok (.invokevirtual 83, 3) := by decide +kernel
theorem dX2_link_96 : decode cX2_link 96 = .ok (.iconst 1, 1) := by decide +kernel
theorem dX2_link_97 : decode cX2_link 97 = .ok (.ireturn, 1) := by decide +kernel
set_option maxRecDepth 20000 in
theorem ggX2_follow_X2_isSlot : GoodIn wsX2_follow wsX2_isSlot := goodIn_r _ [6] rfl (by decide +kernel)
set_option maxRecDepth 20000 in
theorem gX2_follow_X2_isSlot : GoodIn wsX2_follow (va_wsS RX2 34 yX2_isSlot wsX2_isSlot) := goodIn_app (goodIn_r _ [3, 4, 5] rfl (by decide +kernel)) ggX2_follow_X2_isSlot
set_option maxRecDepth 20000 in
theorem ggX2_follow_X2_isLinkField : GoodIn wsX2_follow wsX2_isLinkField := goodIn_r _ [9, 10, 11, 12, 5, 13] rfl (by decide +kernel)
set_option maxRecDepth 20000 in
theorem gX2_follow_X2_isLinkField : GoodIn wsX2_follow (va_wsS RX2 76 yX2_isLinkField wsX2_isLinkField) := goodIn_app (goodIn_r _ [7, 8, 5] rfl (by decide +kernel)) ggX2_follow_X2_isLinkField
set_option maxRecDepth 20000 in
theorem ggX2_follow_X2_failureAs : GoodIn wsX2_follow wsX2_failureAs := goodIn_r _ [16, 17, 18, 19, 20, 21, 22, 39, 40, 41, 42, 43, 44] rfl (by decide +kernel)
set_option maxRecDepth 20000 in
theorem gX2_follow_X2_failureAs : GoodIn wsX2_follow (va_wsS RX2 61 yX2_failureAs wsX2_failureAs) := goodIn_app (goodIn_r _ [14, 15, 5] rfl (by decide +kernel)) ggX2_follow_X2_failureAs
set_option maxRecDepth 20000 in
theorem ggX2_follow_X1_held : GoodIn wsX2_follow wsX1_held := goodIn_r _ [26, 27, 28, 29, 39, 40, 41, 42, 43, 44] rfl (by decide +kernel)
set_option maxRecDepth 20000 in
theorem gX2_follow_X1_held : GoodIn wsX2_follow (wsV RX2 87 RX1 yX1_held wsX1_held) := goodIn_app (goodIn_r _ [23, 24, 25, 20] rfl (by decide +kernel)) ggX2_follow_X1_held
theorem dX2_follow_0 : decode cX2_follow 0 = .ok (.iload_n 1, 1) := by decide +kernel
theorem dX2_follow_1 : decode cX2_follow 1 = .ok (.invokestatic 34, 3) := by decide +kernel
theorem dX2_follow_4 : decode cX2_follow 4 = .ok (.ifCond .eq 17, 3) := by decide +kernel
theorem dX2_follow_7 : decode cX2_follow 7 = .ok (.iload_n 2, 1) := by decide +kernel
theorem dX2_follow_8 : decode cX2_follow 8 = .ok (.invokestatic 76, 3) := by decide +kernel
theorem dX2_follow_11 : decode cX2_follow 11 = .ok (.ifCond .eq 10, 3) := by decide +kernel
theorem dX2_follow_14 : decode cX2_follow 14 = .ok (.iload_n 3, 1) := by decide +kernel
theorem dX2_follow_15 : decode cX2_follow 15 = .ok (.invokestatic 34, 3) := by decide +kernel
theorem dX2_follow_18 : decode cX2_follow 18 = .ok (.ifCond .ne 5, 3) := by decide +kernel
theorem dX2_follow_21 : decode cX2_follow 21 = .ok (.iconst (-1), 1) := by decide +kernel
theorem dX2_follow_22 : decode cX2_follow 22 = .ok (.ireturn, 1) := by decide +kernel
theorem dX2_follow_23 : decode cX2_follow 23 = .ok (.aload_n 0, 1) := by decide +kernel
theorem dX2_follow_24 : decode cX2_follow 24 = .ok (.getfield 11, 3) := by decide +kernel
theorem dX2_follow_27 : decode cX2_follow 27 = .ok (.iload_n 1, 1) := by decide +kernel
theorem dX2_follow_28 : decode cX2_follow 28 = .ok (.aaload, 1) := by decide +kernel
theorem dX2_follow_29 : decode cX2_follow 29 = .ok (.astore 4, 2) := by decide +kernel
theorem dX2_follow_31 : decode cX2_follow 31 = .ok (.aload 4, 2) := by decide +kernel
theorem dX2_follow_33 : decode cX2_follow 33 = .ok (.getstatic 57, 3) := by decide +kernel
theorem dX2_follow_36 : decode cX2_follow 36 = .ok (.iload_n 2, 1) := by decide +kernel
theorem dX2_follow_37 : decode cX2_follow 37 = .ok (.iaload, 1) := by decide +kernel
theorem dX2_follow_38 : decode cX2_follow 38 = .ok (.invokestatic 61, 3) := by decide +kernel
theorem dX2_follow_41 : decode cX2_follow 41 = .ok (.istore 5, 2) := by decide +kernel
theorem dX2_follow_43 : decode cX2_follow 43 = .ok (.iload 5, 2) := by decide +kernel
theorem dX2_follow_45 : decode cX2_follow 45 = .ok (.ifCond .eq 6, 3) := by decide +kernel
theorem dX2_follow_48 : decode cX2_follow 48 = .ok (.iload 5, 2) := by decide +kernel
theorem dX2_follow_50 : decode cX2_follow 50 = .ok (.ireturn, 1) := by decide +kernel
theorem dX2_follow_51 : decode cX2_follow 51 = .ok (.aload_n 0, 1) := by decide +kernel
theorem dX2_follow_52 : decode cX2_follow 52 = .ok (.getfield 11, 3) := by decide +kernel
theorem dX2_follow_55 : decode cX2_follow 55 = .ok (.iload_n 3, 1) := by decide +kernel
theorem dX2_follow_56 : decode cX2_follow 56 = .ok (.aload 4, 2) := by decide +kernel
theorem dX2_follow_58 : decode cX2_follow 58 = .ok (.iload_n 2, 1) := by decide +kernel
theorem dX2_follow_59 : decode cX2_follow 59 = .ok (.invokevirtual 87, 3) := by decide +kernel
theorem dX2_follow_62 : decode cX2_follow 62 = .ok (.aastore, 1) := by decide +kernel
theorem dX2_follow_63 : decode cX2_follow 63 = .ok (.iconst 1, 1) := by decide +kernel
theorem dX2_follow_64 : decode cX2_follow 64 = .ok (.ireturn, 1) := by decide +kernel
set_option maxRecDepth 20000 in
theorem ggX2_row_X2_isSlot : GoodIn wsX2_row wsX2_isSlot := goodIn_r _ [7] rfl (by decide +kernel)
set_option maxRecDepth 20000 in
theorem gX2_row_X2_isSlot : GoodIn wsX2_row (va_wsS RX2 34 yX2_isSlot wsX2_isSlot) := goodIn_app (goodIn_r _ [4, 5, 6] rfl (by decide +kernel)) ggX2_row_X2_isSlot
set_option maxRecDepth 20000 in
theorem ggX2_row_X1_isOf : GoodIn wsX2_row wsX1_isOf := goodIn_r _ [12, 13, 23, 24, 25, 26, 27, 28] rfl (by decide +kernel)
set_option maxRecDepth 20000 in
theorem gX2_row_X1_isOf : GoodIn wsX2_row (wsV RX2 49 RX1 yX1_isOf wsX1_isOf) := goodIn_app (goodIn_r _ [8, 9, 10, 11] rfl (by decide +kernel)) ggX2_row_X1_isOf
theorem dX2_row_0 : decode cX2_row 0 = .ok (.iload_n 1, 1) := by decide +kernel
theorem dX2_row_1 : decode cX2_row 1 = .ok (.invokestatic 34, 3) := by decide +kernel
theorem dX2_row_4 : decode cX2_row 4 = .ok (.ifCond .eq 9, 3) := by decide +kernel
theorem dX2_row_7 : decode cX2_row 7 = .ok (.iload_n 2, 1) := by decide +kernel
theorem dX2_row_8 : decode cX2_row 8 = .ok (.bipush 20, 2) := by decide +kernel
theorem dX2_row_10 : decode cX2_row 10 = .ok (.if_icmp .le 5, 3) := by decide +kernel
theorem dX2_row_13 : decode cX2_row 13 = .ok (.iconst (-1), 1) := by decide +kernel
theorem dX2_row_14 : decode cX2_row 14 = .ok (.ireturn, 1) := by decide +kernel
theorem dX2_row_15 : decode cX2_row 15 = .ok (.aload_n 0, 1) := by decide +kernel
theorem dX2_row_16 : decode cX2_row 16 = .ok (.getfield 11, 3) := by decide +kernel
theorem dX2_row_19 : decode cX2_row 19 = .ok (.iload_n 1, 1) := by decide +kernel
theorem dX2_row_20 : decode cX2_row 20 = .ok (.aaload, 1) := by decide +kernel
theorem dX2_row_21 : decode cX2_row 21 = .ok (.astore_n 3, 1) := by decide +kernel
theorem dX2_row_22 : decode cX2_row 22 = .ok (.aload_n 3, 1) := by decide +kernel
theorem dX2_row_23 : decode cX2_row 23 = .ok (.ifnull 14, 3) := by decide +kernel
theorem dX2_row_26 : decode cX2_row 26 = .ok (.aload_n 3, 1) := by decide +kernel
theorem dX2_row_27 : decode cX2_row 27 = .ok (.iconst 0, 1) := by decide +kernel
theorem dX2_row_28 : decode cX2_row 28 = .ok (.invokevirtual 49, 3) := by decide +kernel
theorem dX2_row_31 : decode cX2_row 31 = .ok (.ifCond .ne 6, 3) := by decide +kernel
theorem dX2_row_34 : decode cX2_row 34 = .ok (.bipush (-14), 2) := by decide +kernel
theorem dX2_row_36 : decode cX2_row 36 = .ok (.ireturn, 1) := by decide +kernel
theorem dX2_row_37 : decode cX2_row 37 = .ok (.iload_n 2, 1) := by decide +kernel
theorem dX2_row_38 : decode cX2_row 38 = .ok (.ifCond .ge 12, 3) := by decide +kernel
theorem dX2_row_41 : decode cX2_row 41 = .ok (.iload_n 2, 1) := by decide +kernel
theorem dX2_row_42 : decode cX2_row 42 = .ok (.bipush (-4), 2) := by decide +kernel
theorem dX2_row_44 : decode cX2_row 44 = .ok (.if_icmp .eq 6, 3) := by decide +kernel
theorem dX2_row_47 : decode cX2_row 47 = .ok (.bipush (-13), 2) := by decide +kernel
theorem dX2_row_49 : decode cX2_row 49 = .ok (.ireturn, 1) := by decide +kernel
theorem dX2_row_50 : decode cX2_row 50 = .ok (.aload_n 3, 1) := by decide +kernel
theorem dX2_row_51 : decode cX2_row 51 = .ok (.ifnonnull 6, 3) := by decide +kernel
theorem dX2_row_54 : decode cX2_row 54 = .ok (.bipush (-11), 2) := by decide +kernel
theorem dX2_row_56 : decode cX2_row 56 = .ok (.ireturn, 1) := by decide +kernel
theorem dX2_row_57 : decode cX2_row 57 = .ok (.aload_n 3, 1) := by decide +kernel
theorem dX2_row_58 : decode cX2_row 58 = .ok (.iload_n 2, 1) := by decide +kernel
theorem dX2_row_59 : decode cX2_row 59 = .ok (.bipush (-4), 2) := by decide +kernel
theorem dX2_row_61 : decode cX2_row 61 = .ok (.if_icmp .ne 7, 3) := by decide +kernel
theorem dX2_row_64 : decode cX2_row 64 = .ok (.aconst_null, 1) := by decide +kernel
theorem dX2_row_65 : decode cX2_row 65 = .ok (.goto 6, 3) := by decide +kernel
theorem dX2_row_68 : decode cX2_row 68 = .ok (.iload_n 2, 1) := by decide +kernel
theorem dX2_row_69 : decode cX2_row 69 = .ok (.newarray .int, 2) := by decide +kernel
theorem dX2_row_71 : decode cX2_row 71 = .ok (.putfield 91, 3) := by decide +kernel
theorem dX2_row_74 : decode cX2_row 74 = .ok (.iload_n 2, 1) := by decide +kernel
theorem dX2_row_75 : decode cX2_row 75 = .ok (.ireturn, 1) := by decide +kernel
set_option maxRecDepth 20000 in
theorem ggX2_put_X2_isSlot : GoodIn wsX2_put wsX2_isSlot := goodIn_r _ [6] rfl (by decide +kernel)
set_option maxRecDepth 20000 in
theorem gX2_put_X2_isSlot : GoodIn wsX2_put (va_wsS RX2 34 yX2_isSlot wsX2_isSlot) := goodIn_app (goodIn_r _ [3, 4, 5] rfl (by decide +kernel)) ggX2_put_X2_isSlot
set_option maxRecDepth 20000 in
theorem ggX2_put_X2_failureOfRow : GoodIn wsX2_put wsX2_failureOfRow := goodIn_r _ [9, 2, 10, 11, 5, 12, 13, 14, 15, 16, 17, 18, 28, 29, 30, 31, 32, 33] rfl (by decide +kernel)
set_option maxRecDepth 20000 in
theorem gX2_put_X2_failureOfRow : GoodIn wsX2_put (va_wsS RX2 94 yX2_failureOfRow wsX2_failureOfRow) := goodIn_app (goodIn_r _ [7, 8, 5] rfl (by decide +kernel)) ggX2_put_X2_failureOfRow
theorem dX2_put_0 : decode cX2_put 0 = .ok (.iload_n 1, 1) := by decide +kernel
theorem dX2_put_1 : decode cX2_put 1 = .ok (.invokestatic 34, 3) := by decide +kernel
theorem dX2_put_4 : decode cX2_put 4 = .ok (.ifCond .ne 5, 3) := by decide +kernel
theorem dX2_put_7 : decode cX2_put 7 = .ok (.iconst (-1), 1) := by decide +kernel
theorem dX2_put_8 : decode cX2_put 8 = .ok (.ireturn, 1) := by decide +kernel
theorem dX2_put_9 : decode cX2_put 9 = .ok (.aload_n 0, 1) := by decide +kernel
theorem dX2_put_10 : decode cX2_put 10 = .ok (.getfield 11, 3) := by decide +kernel
theorem dX2_put_13 : decode cX2_put 13 = .ok (.iload_n 1, 1) := by decide +kernel
theorem dX2_put_14 : decode cX2_put 14 = .ok (.aaload, 1) := by decide +kernel
theorem dX2_put_15 : decode cX2_put 15 = .ok (.astore 4, 2) := by decide +kernel
theorem dX2_put_17 : decode cX2_put 17 = .ok (.aload 4, 2) := by decide +kernel
theorem dX2_put_19 : decode cX2_put 19 = .ok (.invokestatic 94, 3) := by decide +kernel
theorem dX2_put_22 : decode cX2_put 22 = .ok (.istore 5, 2) := by decide +kernel
theorem dX2_put_24 : decode cX2_put 24 = .ok (.iload 5, 2) := by decide +kernel
theorem dX2_put_26 : decode cX2_put 26 = .ok (.ifCond .eq 6, 3) := by decide +kernel
theorem dX2_put_29 : decode cX2_put 29 = .ok (.iload 5, 2) := by decide +kernel
theorem dX2_put_31 : decode cX2_put 31 = .ok (.ireturn, 1) := by decide +kernel
theorem dX2_put_32 : decode cX2_put 32 = .ok (.iload_n 2, 1) := by decide +kernel
theorem dX2_put_33 : decode cX2_put 33 = .ok (.ifCond .lt 13, 3) := by decide +kernel
theorem dX2_put_36 : decode cX2_put 36 = .ok (.iload_n 2, 1) := by decide +kernel
theorem dX2_put_37 : decode cX2_put 37 = .ok (.aload 4, 2) := by decide +kernel
theorem dX2_put_39 : decode cX2_put 39 = .ok (.getfield 91, 3) := by decide +kernel
theorem dX2_put_42 : decode cX2_put 42 = .ok (.arraylength, 1) := by decide +kernel
theorem dX2_put_43 : decode cX2_put 43 = .ok (.if_icmp .lt 6, 3) := by decide +kernel
theorem dX2_put_46 : decode cX2_put 46 = .ok (.bipush (-12), 2) := by decide +kernel
theorem dX2_put_48 : decode cX2_put 48 = .ok (.ireturn, 1) := by decide +kernel
theorem dX2_put_49 : decode cX2_put 49 = .ok (.aload 4, 2) := by decide +kernel
theorem dX2_put_51 : decode cX2_put 51 = .ok (.getfield 91, 3) := by decide +kernel
theorem dX2_put_54 : decode cX2_put 54 = .ok (.iload_n 2, 1) := by decide +kernel
theorem dX2_put_55 : decode cX2_put 55 = .ok (.iaload, 1) := by decide +kernel
theorem dX2_put_56 : decode cX2_put 56 = .ok (.istore 6, 2) := by decide +kernel
theorem dX2_put_58 : decode cX2_put 58 = .ok (.aload 4, 2) := by decide +kernel
theorem dX2_put_60 : decode cX2_put 60 = .ok (.getfield 91, 3) := by decide +kernel
theorem dX2_put_63 : decode cX2_put 63 = .ok (.iload_n 2, 1) := by decide +kernel
theorem dX2_put_64 : decode cX2_put 64 = .ok (.iload_n 3, 1) := by decide +kernel
theorem dX2_put_65 : decode cX2_put 65 = .ok (.iastore, 1) := by decide +kernel
theorem dX2_put_66 : decode cX2_put 66 = .ok (.iload 6, 2) := by decide +kernel
theorem dX2_put_68 : decode cX2_put 68 = .ok (.ireturn, 1) := by decide +kernel
set_option maxRecDepth 20000 in
theorem ggX2_length_X2_isSlot : GoodIn wsX2_length wsX2_isSlot := goodIn_r _ [6] rfl (by decide +kernel)
set_option maxRecDepth 20000 in
theorem gX2_length_X2_isSlot : GoodIn wsX2_length (va_wsS RX2 34 yX2_isSlot wsX2_isSlot) := goodIn_app (goodIn_r _ [3, 4, 5] rfl (by decide +kernel)) ggX2_length_X2_isSlot
set_option maxRecDepth 20000 in
theorem ggX2_length_X2_failureOfRow : GoodIn wsX2_length wsX2_failureOfRow := goodIn_r _ [9, 2, 10, 11, 5, 12, 13, 14, 15, 16, 17, 18, 28, 29, 30, 31, 32, 33] rfl (by decide +kernel)
set_option maxRecDepth 20000 in
theorem gX2_length_X2_failureOfRow : GoodIn wsX2_length (va_wsS RX2 94 yX2_failureOfRow wsX2_failureOfRow) := goodIn_app (goodIn_r _ [7, 8, 5] rfl (by decide +kernel)) ggX2_length_X2_failureOfRow
theorem dX2_length_0 : decode cX2_length 0 = .ok (.iload_n 1, 1) := by decide +kernel
theorem dX2_length_1 : decode cX2_length 1 = .ok (.invokestatic 34, 3) := by decide +kernel
theorem dX2_length_4 : decode cX2_length 4 = .ok (.ifCond .ne 5, 3) := by decide +kernel
theorem dX2_length_7 : decode cX2_length 7 = .ok (.iconst (-1), 1) := by decide +kernel
theorem dX2_length_8 : decode cX2_length 8 = .ok (.ireturn, 1) := by decide +kernel
theorem dX2_length_9 : decode cX2_length 9 = .ok (.aload_n 0, 1) := by decide +kernel
theorem dX2_length_10 : decode cX2_length 10 = .ok (.getfield 11, 3) := by decide +kernel
theorem dX2_length_13 : decode cX2_length 13 = .ok (.iload_n 1, 1) := by decide +kernel
theorem dX2_length_14 : decode cX2_length 14 = .ok (.aaload, 1) := by decide +kernel
theorem dX2_length_15 : decode cX2_length 15 = .ok (.astore_n 2, 1) := by decide +kernel
theorem dX2_length_16 : decode cX2_length 16 = .ok (.aload_n 2, 1) := by decide +kernel
theorem dX2_length_17 : decode cX2_length 17 = .ok (.invokestatic 94, 3) := by decide +kernel
theorem dX2_length_20 : decode cX2_length 20 = .ok (.istore_n 3, 1) := by decide +kernel
theorem dX2_length_21 : decode cX2_length 21 = .ok (.iload_n 3, 1) := by decide +kernel
theorem dX2_length_22 : decode cX2_length 22 = .ok (.ifCond .eq 7, 3) := by decide +kernel
theorem dX2_length_25 : decode cX2_length 25 = .ok (.iload_n 3, 1) := by decide +kernel
theorem dX2_length_26 : decode cX2_length 26 = .ok (.goto 8, 3) := by decide +kernel
theorem dX2_length_29 : decode cX2_length 29 = .ok (.aload_n 2, 1) := by decide +kernel
theorem dX2_length_30 : decode cX2_length 30 = .ok (.getfield 91, 3) := by decide +kernel
theorem dX2_length_33 : decode cX2_length 33 = .ok (.arraylength, 1) := by decide +kernel
theorem dX2_length_34 : decode cX2_length 34 = .ok (.ireturn, 1) := by decide +kernel
set_option maxRecDepth 20000 in
theorem ggX2_count_X2_isSlot : GoodIn wsX2_count wsX2_isSlot := goodIn_r _ [8] rfl (by decide +kernel)
set_option maxRecDepth 20000 in
theorem gX2_count_X2_isSlot : GoodIn wsX2_count (va_wsS RX2 34 yX2_isSlot wsX2_isSlot) := goodIn_app (goodIn_r _ [5, 6, 7] rfl (by decide +kernel)) ggX2_count_X2_isSlot
set_option maxRecDepth 20000 in
theorem ggX2_count_X2_failureAs : GoodIn wsX2_count wsX2_failureAs := goodIn_r _ [11, 12, 13, 14, 15, 16, 17, 27, 28, 29, 30, 31, 32] rfl (by decide +kernel)
set_option maxRecDepth 20000 in
theorem gX2_count_X2_failureAs : GoodIn wsX2_count (va_wsS RX2 61 yX2_failureAs wsX2_failureAs) := goodIn_app (goodIn_r _ [9, 10, 7] rfl (by decide +kernel)) ggX2_count_X2_failureAs
theorem dX2_count_0 : decode cX2_count 0 = .ok (.iload_n 1, 1) := by decide +kernel
theorem dX2_count_1 : decode cX2_count 1 = .ok (.invokestatic 34, 3) := by decide +kernel
theorem dX2_count_4 : decode cX2_count 4 = .ok (.ifCond .eq 12, 3) := by decide +kernel
theorem dX2_count_7 : decode cX2_count 7 = .ok (.iload_n 2, 1) := by decide +kernel
theorem dX2_count_8 : decode cX2_count 8 = .ok (.ifCond .lt 8, 3) := by decide +kernel
theorem dX2_count_11 : decode cX2_count 11 = .ok (.iload_n 2, 1) := by decide +kernel
theorem dX2_count_12 : decode cX2_count 12 = .ok (.iconst 2, 1) := by decide +kernel
theorem dX2_count_13 : decode cX2_count 13 = .ok (.if_icmp .le 7, 3) := by decide +kernel
theorem dX2_count_16 : decode cX2_count 16 = .ok (.ldc2_w 55, 3) := by decide +kernel
theorem dX2_count_19 : decode cX2_count 19 = .ok (.lreturn, 1) := by decide +kernel
theorem dX2_count_20 : decode cX2_count 20 = .ok (.aload_n 0, 1) := by decide +kernel
theorem dX2_count_21 : decode cX2_count 21 = .ok (.getfield 11, 3) := by decide +kernel
theorem dX2_count_24 : decode cX2_count 24 = .ok (.iload_n 1, 1) := by decide +kernel
theorem dX2_count_25 : decode cX2_count 25 = .ok (.aaload, 1) := by decide +kernel
theorem dX2_count_26 : decode cX2_count 26 = .ok (.astore_n 3, 1) := by decide +kernel
theorem dX2_count_27 : decode cX2_count 27 = .ok (.aload_n 3, 1) := by decide +kernel
theorem dX2_count_28 : decode cX2_count 28 = .ok (.iload_n 2, 1) := by decide +kernel
theorem dX2_count_29 : decode cX2_count 29 = .ok (.invokestatic 61, 3) := by decide +kernel
theorem dX2_count_32 : decode cX2_count 32 = .ok (.istore 4, 2) := by decide +kernel
theorem dX2_count_34 : decode cX2_count 34 = .ok (.iload 4, 2) := by decide +kernel
theorem dX2_count_36 : decode cX2_count 36 = .ok (.ifCond .eq 9, 3) := by decide +kernel
theorem dX2_count_39 : decode cX2_count 39 = .ok (.iload 4, 2) := by decide +kernel
theorem dX2_count_41 : decode cX2_count 41 = .ok (.i2l, 1) := by decide +kernel
theorem dX2_count_42 : decode cX2_count 42 = .ok (.goto 13, 3) := by decide +kernel
theorem dX2_count_45 : decode cX2_count 45 = .ok (.aload_n 3, 1) := by decide +kernel
theorem dX2_count_46 : decode cX2_count 46 = .ok (.getfield 65, 3) := by decide +kernel
theorem dX2_count_49 : decode cX2_count 49 = .ok (.getstatic 98, 3) := by decide +kernel
theorem dX2_count_52 : decode cX2_count 52 = .ok (.iload_n 2, 1) := by decide +kernel
theorem dX2_count_53 : decode cX2_count 53 = .ok (.iaload, 1) := by decide +kernel
theorem dX2_count_54 : decode cX2_count 54 = .ok (.laload, 1) := by decide +kernel
theorem dX2_count_55 : decode cX2_count 55 = .ok (.lreturn, 1) := by decide +kernel
set_option maxRecDepth 20000 in
theorem ggX2_call_X2_isSlot : GoodIn wsX2_call wsX2_isSlot := goodIn_r _ [6] rfl (by decide +kernel)
set_option maxRecDepth 20000 in
theorem gX2_call_X2_isSlot : GoodIn wsX2_call (va_wsS RX2 34 yX2_isSlot wsX2_isSlot) := goodIn_app (goodIn_r _ [3, 4, 5] rfl (by decide +kernel)) ggX2_call_X2_isSlot
set_option maxRecDepth 20000 in
theorem ggX2_call_X2_failureAs : GoodIn wsX2_call wsX2_failureAs := goodIn_r _ [9, 10, 11, 12, 13, 14, 15, 49, 50, 51, 52, 53, 54] rfl (by decide +kernel)
set_option maxRecDepth 20000 in
theorem gX2_call_X2_failureAs : GoodIn wsX2_call (va_wsS RX2 61 yX2_failureAs wsX2_failureAs) := goodIn_app (goodIn_r _ [7, 8, 5] rfl (by decide +kernel)) ggX2_call_X2_failureAs
set_option maxRecDepth 20000 in
theorem ggX2_call_X1_name : GoodIn wsX2_call wsX1_name := goodIn_r _ [19, 20, 15, 49, 50, 51, 52, 53, 54] rfl (by decide +kernel)
set_option maxRecDepth 20000 in
theorem gX2_call_X1_name : GoodIn wsX2_call (wsV RX2 101 RX1 yX1_name wsX1_name) := goodIn_app (goodIn_r _ [16, 17, 18, 13] rfl (by decide +kernel)) ggX2_call_X1_name
set_option maxRecDepth 20000 in
theorem ggX2_call_X1_secret : GoodIn wsX2_call wsX1_secret := goodIn_r _ [24, 20, 49, 50, 51, 52, 53, 54] rfl (by decide +kernel)
set_option maxRecDepth 20000 in
theorem gX2_call_X1_secret : GoodIn wsX2_call (wsV RX2 105 RX1 yX1_secret wsX1_secret) := goodIn_app (goodIn_r _ [21, 22, 23, 13] rfl (by decide +kernel)) ggX2_call_X1_secret
set_option maxRecDepth 20000 in
theorem ggX2_call_X1_depth : GoodIn wsX2_call wsX1_depth := goodIn_r _ [28, 29, 30, 31, 13, 32, 15, 33, 34, 35, 49, 50, 51, 52, 53, 54] rfl (by decide +kernel)
set_option maxRecDepth 20000 in
theorem gX2_call_X1_depth : GoodIn wsX2_call (wsV RX2 108 RX1 yX1_depth wsX1_depth) := goodIn_app (goodIn_r _ [25, 26, 27, 13] rfl (by decide +kernel)) ggX2_call_X1_depth
set_option maxRecDepth 20000 in
theorem ggX2_call_X1_kind : GoodIn wsX2_call wsX1_kind := goodIn_r _ [39, 15, 33, 49, 50, 51, 52, 53, 54] rfl (by decide +kernel)
set_option maxRecDepth 20000 in
theorem gX2_call_X1_kind : GoodIn wsX2_call (wsV RX2 111 RX1 yX1_kind wsX1_kind) := goodIn_app (goodIn_r _ [36, 37, 38, 13] rfl (by decide +kernel)) ggX2_call_X1_kind
