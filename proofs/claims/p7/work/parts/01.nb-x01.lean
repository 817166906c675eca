theorem dX0_init_0 : decode cX0_init 0 = .ok (.aload_n 0, 1) := by decide +kernel
theorem dX0_init_1 : decode cX0_init 1 = .ok (.invokespecial 3, 3) := by decide +kernel
theorem dX0_init_4 : decode cX0_init 4 = .ok (.aload_n 0, 1) := by decide +kernel
theorem dX0_init_5 : decode cX0_init 5 = .ok (.sipush 300, 3) := by decide +kernel
theorem dX0_init_8 : decode cX0_init 8 = .ok (.newarray .int, 2) := by decide +kernel
theorem dX0_init_10 : decode cX0_init 10 = .ok (.putfield 9, 3) := by decide +kernel
theorem dX0_init_13 : decode cX0_init 13 = .ok (.aload_n 0, 1) := by decide +kernel
theorem dX0_init_14 : decode cX0_init 14 = .ok (.sipush 300, 3) := by decide +kernel
theorem dX0_init_17 : decode cX0_init 17 = .ok (.newarray .int, 2) := by decide +kernel
theorem dX0_init_19 : decode cX0_init 19 = .ok (.putfield 15, 3) := by decide +kernel
theorem dX0_init_22 : decode cX0_init 22 = .ok (.aload_n 0, 1) := by decide +kernel
theorem dX0_init_23 : decode cX0_init 23 = .ok (.sipush 300, 3) := by decide +kernel
theorem dX0_init_26 : decode cX0_init 26 = .ok (.newarray .long, 2) := by decide +kernel
theorem dX0_init_28 : decode cX0_init 28 = .ok (.putfield 18, 3) := by decide +kernel
theorem dX0_init_31 : decode cX0_init 31 = .ok (.return_, 1) := by decide +kernel
theorem dX0_has_0 : decode cX0_has 0 = .ok (.iload_n 1, 1) := by decide +kernel
theorem dX0_has_1 : decode cX0_has 1 = .ok (.ifCond .lt 15, 3) := by decide +kernel
theorem dX0_has_4 : decode cX0_has 4 = .ok (.iload_n 1, 1) := by decide +kernel
theorem dX0_has_5 : decode cX0_has 5 = .ok (.aload_n 0, 1) := by decide +kernel
theorem dX0_has_6 : decode cX0_has 6 = .ok (.getfield 22, 3) := by decide +kernel
theorem dX0_has_9 : decode cX0_has 9 = .ok (.if_icmp .ge 7, 3) := by decide +kernel
theorem dX0_has_12 : decode cX0_has 12 = .ok (.iconst 1, 1) := by decide +kernel
theorem dX0_has_13 : decode cX0_has 13 = .ok (.goto 4, 3) := by decide +kernel
theorem dX0_has_16 : decode cX0_has 16 = .ok (.iconst 0, 1) := by decide +kernel
theorem dX0_has_17 : decode cX0_has 17 = .ok (.ireturn, 1) := by decide +kernel
theorem dX0_add_0 : decode cX0_add 0 = .ok (.aload_n 0, 1) := by decide +kernel
theorem dX0_add_1 : decode cX0_add 1 = .ok (.getfield 22, 3) := by decide +kernel
theorem dX0_add_4 : decode cX0_add 4 = .ok (.sipush 300, 3) := by decide +kernel
theorem dX0_add_7 : decode cX0_add 7 = .ok (.if_icmp .lt 5, 3) := by decide +kernel
theorem dX0_add_10 : decode cX0_add 10 = .ok (.iconst 0, 1) := by decide +kernel
theorem dX0_add_11 : decode cX0_add 11 = .ok (.ireturn, 1) := by decide +kernel
theorem dX0_add_12 : decode cX0_add 12 = .ok (.aload_n 0, 1) := by decide +kernel
theorem dX0_add_13 : decode cX0_add 13 = .ok (.getfield 9, 3) := by decide +kernel
theorem dX0_add_16 : decode cX0_add 16 = .ok (.aload_n 0, 1) := by decide +kernel
theorem dX0_add_17 : decode cX0_add 17 = .ok (.getfield 22, 3) := by decide +kernel
theorem dX0_add_20 : decode cX0_add 20 = .ok (.iload_n 1, 1) := by decide +kernel
theorem dX0_add_21 : decode cX0_add 21 = .ok (.iastore, 1) := by decide +kernel
theorem dX0_add_22 : decode cX0_add 22 = .ok (.aload_n 0, 1) := by decide +kernel
theorem dX0_add_23 : decode cX0_add 23 = .ok (.getfield 15, 3) := by decide +kernel
theorem dX0_add_26 : decode cX0_add 26 = .ok (.aload_n 0, 1) := by decide +kernel
theorem dX0_add_27 : decode cX0_add 27 = .ok (.getfield 22, 3) := by decide +kernel
theorem dX0_add_30 : decode cX0_add 30 = .ok (.iload_n 2, 1) := by decide +kernel
theorem dX0_add_31 : decode cX0_add 31 = .ok (.iastore, 1) := by decide +kernel
theorem dX0_add_32 : decode cX0_add 32 = .ok (.aload_n 0, 1) := by decide +kernel
theorem dX0_add_33 : decode cX0_add 33 = .ok (.getfield 18, 3) := by decide +kernel
theorem dX0_add_36 : decode cX0_add 36 = .ok (.aload_n 0, 1) := by decide +kernel
theorem dX0_add_37 : decode cX0_add 37 = .ok (.getfield 22, 3) := by decide +kernel
theorem dX0_add_40 : decode cX0_add 40 = .ok (.lload_n 3, 1) := by decide +kernel
theorem dX0_add_41 : decode cX0_add 41 = .ok (.lastore, 1) := by decide +kernel
theorem dX0_add_42 : decode cX0_add 42 = .ok (.aload_n 0, 1) := by decide +kernel
theorem dX0_add_43 : decode cX0_add 43 = .ok (.dup, 1) := by decide +kernel
theorem dX0_add_44 : decode cX0_add 44 = .ok (.getfield 22, 3) := by decide +kernel
theorem dX0_add_47 : decode cX0_add 47 = .ok (.iconst 1, 1) := by decide +kernel
theorem dX0_add_48 : decode cX0_add 48 = .ok (.iadd, 1) := by decide +kernel
theorem dX0_add_49 : decode cX0_add 49 = .ok (.putfield 22, 3) := by decide +kernel
theorem dX0_add_52 : decode cX0_add 52 = .ok (.iconst 1, 1) := by decide +kernel
theorem dX0_add_53 : decode cX0_add 53 = .ok (.ireturn, 1) := by decide +kernel
theorem dX0_sameAs_0 : decode cX0_sameAs 0 = .ok (.aload_n 0, 1) := by decide +kernel
theorem dX0_sameAs_1 : decode cX0_sameAs 1 = .ok (.getfield 22, 3) := by decide +kernel
theorem dX0_sameAs_4 : decode cX0_sameAs 4 = .ok (.aload_n 1, 1) := by decide +kernel
theorem dX0_sameAs_5 : decode cX0_sameAs 5 = .ok (.getfield 22, 3) := by decide +kernel
theorem dX0_sameAs_8 : decode cX0_sameAs 8 = .ok (.if_icmp .eq 5, 3) := by decide +kernel
theorem dX0_sameAs_11 : decode cX0_sameAs 11 = .ok (.iconst 0, 1) := by decide +kernel
theorem dX0_sameAs_12 : decode cX0_sameAs 12 = .ok (.ireturn, 1) := by decide +kernel
theorem dX0_sameAs_13 : decode cX0_sameAs 13 = .ok (.iconst 0, 1) := by decide +kernel
theorem dX0_sameAs_14 : decode cX0_sameAs 14 = .ok (.istore_n 2, 1) := by decide +kernel
theorem dX0_sameAs_15 : decode cX0_sameAs 15 = .ok (.iload_n 2, 1) := by decide +kernel
theorem dX0_sameAs_16 : decode cX0_sameAs 16 = .ok (.aload_n 0, 1) := by decide +kernel
theorem dX0_sameAs_17 : decode cX0_sameAs 17 = .ok (.getfield 22, 3) := by decide +kernel
theorem dX0_sameAs_20 : decode cX0_sameAs 20 = .ok (.if_icmp .ge 57, 3) := by decide +kernel
theorem dX0_sameAs_23 : decode cX0_sameAs 23 = .ok (.aload_n 0, 1) := by decide +kernel
theorem dX0_sameAs_24 : decode cX0_sameAs 24 = .ok (.getfield 9, 3) := by decide +kernel
theorem dX0_sameAs_27 : decode cX0_sameAs 27 = .ok (.iload_n 2, 1) := by decide +kernel
theorem dX0_sameAs_28 : decode cX0_sameAs 28 = .ok (.iaload, 1) := by decide +kernel
theorem dX0_sameAs_29 : decode cX0_sameAs 29 = .ok (.aload_n 1, 1) := by decide +kernel
theorem dX0_sameAs_30 : decode cX0_sameAs 30 = .ok (.getfield 9, 3) := by decide +kernel
theorem dX0_sameAs_33 : decode cX0_sameAs 33 = .ok (.iload_n 2, 1) := by decide +kernel
theorem dX0_sameAs_34 : decode cX0_sameAs 34 = .ok (.iaload, 1) := by decide +kernel
theorem dX0_sameAs_35 : decode cX0_sameAs 35 = .ok (.if_icmp .ne 34, 3) := by decide +kernel
theorem dX0_sameAs_38 : decode cX0_sameAs 38 = .ok (.aload_n 0, 1) := by decide +kernel
theorem dX0_sameAs_39 : decode cX0_sameAs 39 = .ok (.getfield 15, 3) := by decide +kernel
theorem dX0_sameAs_42 : decode cX0_sameAs 42 = .ok (.iload_n 2, 1) := by decide +kernel
theorem dX0_sameAs_43 : decode cX0_sameAs 43 = .ok (.iaload, 1) := by decide +kernel
theorem dX0_sameAs_44 : decode cX0_sameAs 44 = .ok (.aload_n 1, 1) := by decide +kernel
theorem dX0_sameAs_45 : decode cX0_sameAs 45 = .ok (.getfield 15, 3) := by decide +kernel
theorem dX0_sameAs_48 : decode cX0_sameAs 48 = .ok (.iload_n 2, 1) := by decide +kernel
theorem dX0_sameAs_49 : decode cX0_sameAs 49 = .ok (.iaload, 1) := by decide +kernel
theorem dX0_sameAs_50 : decode cX0_sameAs 50 = .ok (.if_icmp .ne 19, 3) := by decide +kernel
theorem dX0_sameAs_53 : decode cX0_sameAs 53 = .ok (.aload_n 0, 1) := by decide +kernel
theorem dX0_sameAs_54 : decode cX0_sameAs 54 = .ok (.getfield 18, 3) := by decide +kernel
theorem dX0_sameAs_57 : decode cX0_sameAs 57 = .ok (.iload_n 2, 1) := by decide +kernel
theorem dX0_sameAs_58 : decode cX0_sameAs 58 = .ok (.laload, 1) := by decide +kernel
theorem dX0_sameAs_59 : decode cX0_sameAs 59 = .ok (.aload_n 1, 1) := by decide +kernel
theorem dX0_sameAs_60 : decode cX0_sameAs 60 = .ok (.getfield 18, 3) := by decide +kernel
theorem dX0_sameAs_63 : decode cX0_sameAs 63 = .ok (.iload_n 2, 1) := by decide +kernel
theorem dX0_sameAs_64 : decode cX0_sameAs 64 = .ok (.laload, 1) := by decide +kernel
theorem dX0_sameAs_65 : decode cX0_sameAs 65 = .ok (.lcmp, 1) := by decide +kernel
theorem dX0_sameAs_66 : decode cX0_sameAs 66 = .ok (.ifCond .eq 5, 3) := by decide +kernel
theorem dX0_sameAs_69 : decode cX0_sameAs 69 = .ok (.iconst 0, 1) := by decide +kernel
theorem dX0_sameAs_70 : decode cX0_sameAs 70 = .ok (.ireturn, 1) := by decide +kernel
theorem dX0_sameAs_71 : decode cX0_sameAs 71 = .ok (.iinc 2 1, 3) := by decide +kernel
theorem dX0_sameAs_74 : decode cX0_sameAs 74 = .ok (.goto (-59), 3) := by decide +kernel
theorem dX0_sameAs_77 : decode cX0_sameAs 77 = .ok (.iconst 1, 1) := by decide +kernel
theorem dX0_sameAs_78 : decode cX0_sameAs 78 = .ok (.ireturn, 1) := by decide +kernel
set_option maxRecDepth 20000 in
theorem ggX0_toldToMaker_X2_isFinal : GoodIn wsX0_toldToMaker wsX2_isFinal := goodIn_r _ [6] rfl (by decide +kernel)
set_option maxRecDepth 20000 in
theorem gX0_toldToMaker_X2_isFinal_n26 : GoodIn wsX0_toldToMaker (wsX2_isFinal) := ggX0_toldToMaker_X2_isFinal
set_option maxRecDepth 20000 in
theorem ggX0_toldToMaker_X2_asTold : GoodIn wsX0_toldToMaker wsX2_asTold := goodIn_r _ [8, 9, 10, 11, 5, 12, 13, 14, 15, 16, 17, 18, 19, 20, 21] rfl (by decide +kernel)
set_option maxRecDepth 20000 in
theorem gX0_toldToMaker_X2_asTold_n30 : GoodIn wsX0_toldToMaker (wsX2_asTold) := ggX0_toldToMaker_X2_asTold
theorem dX0_toldToMaker_0 : decode cX0_toldToMaker 0 = .ok (.iload_n 1, 1) := by decide +kernel
theorem dX0_toldToMaker_1 : decode cX0_toldToMaker 1 = .ok (.iconst 1, 1) := by decide +kernel
theorem dX0_toldToMaker_2 : decode cX0_toldToMaker 2 = .ok (.iadd, 1) := by decide +kernel
theorem dX0_toldToMaker_3 : decode cX0_toldToMaker 3 = .ok (.istore_n 2, 1) := by decide +kernel
theorem dX0_toldToMaker_4 : decode cX0_toldToMaker 4 = .ok (.iload_n 2, 1) := by decide +kernel
theorem dX0_toldToMaker_5 : decode cX0_toldToMaker 5 = .ok (.aload_n 0, 1) := by decide +kernel
theorem dX0_toldToMaker_6 : decode cX0_toldToMaker 6 = .ok (.getfield 22, 3) := by decide +kernel
theorem dX0_toldToMaker_9 : decode cX0_toldToMaker 9 = .ok (.if_icmp .ge 48, 3) := by decide +kernel
theorem dX0_toldToMaker_12 : decode cX0_toldToMaker 12 = .ok (.aload_n 0, 1) := by decide +kernel
theorem dX0_toldToMaker_13 : decode cX0_toldToMaker 13 = .ok (.getfield 15, 3) := by decide +kernel
theorem dX0_toldToMaker_16 : decode cX0_toldToMaker 16 = .ok (.iload_n 2, 1) := by decide +kernel
theorem dX0_toldToMaker_17 : decode cX0_toldToMaker 17 = .ok (.iaload, 1) := by decide +kernel
theorem dX0_toldToMaker_18 : decode cX0_toldToMaker 18 = .ok (.iconst (-1), 1) := by decide +kernel
theorem dX0_toldToMaker_19 : decode cX0_toldToMaker 19 = .ok (.if_icmp .eq 38, 3) := by decide +kernel
theorem dX0_toldToMaker_22 : decode cX0_toldToMaker 22 = .ok (.aload_n 0, 1) := by decide +kernel
theorem dX0_toldToMaker_23 : decode cX0_toldToMaker 23 = .ok (.getfield 15, 3) := by decide +kernel
theorem dX0_toldToMaker_26 : decode cX0_toldToMaker 26 = .ok (.iload_n 2, 1) := by decide +kernel
theorem dX0_toldToMaker_27 : decode cX0_toldToMaker 27 = .ok (.iaload, 1) := by decide +kernel
theorem dX0_toldToMaker_28 : decode cX0_toldToMaker 28 = .ok (.invokestatic 26, 3) := by decide +kernel
theorem dX0_toldToMaker_31 : decode cX0_toldToMaker 31 = .ok (.ifCond .eq 20, 3) := by decide +kernel
theorem dX0_toldToMaker_34 : decode cX0_toldToMaker 34 = .ok (.aload_n 0, 1) := by decide +kernel
theorem dX0_toldToMaker_35 : decode cX0_toldToMaker 35 = .ok (.getfield 15, 3) := by decide +kernel
theorem dX0_toldToMaker_38 : decode cX0_toldToMaker 38 = .ok (.iload_n 2, 1) := by decide +kernel
theorem dX0_toldToMaker_39 : decode cX0_toldToMaker 39 = .ok (.iaload, 1) := by decide +kernel
theorem dX0_toldToMaker_40 : decode cX0_toldToMaker 40 = .ok (.aload_n 0, 1) := by decide +kernel
theorem dX0_toldToMaker_41 : decode cX0_toldToMaker 41 = .ok (.getfield 18, 3) := by decide +kernel
theorem dX0_toldToMaker_44 : decode cX0_toldToMaker 44 = .ok (.iload_n 2, 1) := by decide +kernel
theorem dX0_toldToMaker_45 : decode cX0_toldToMaker 45 = .ok (.laload, 1) := by decide +kernel
theorem dX0_toldToMaker_46 : decode cX0_toldToMaker 46 = .ok (.invokestatic 30, 3) := by decide +kernel
theorem dX0_toldToMaker_49 : decode cX0_toldToMaker 49 = .ok (.l2i, 1) := by decide +kernel
theorem dX0_toldToMaker_50 : decode cX0_toldToMaker 50 = .ok (.ireturn, 1) := by decide +kernel
theorem dX0_toldToMaker_51 : decode cX0_toldToMaker 51 = .ok (.iinc 2 1, 3) := by decide +kernel
theorem dX0_toldToMaker_54 : decode cX0_toldToMaker 54 = .ok (.goto (-50), 3) := by decide +kernel
theorem dX0_toldToMaker_57 : decode cX0_toldToMaker 57 = .ok (.iconst 0, 1) := by decide +kernel
theorem dX0_toldToMaker_58 : decode cX0_toldToMaker 58 = .ok (.ireturn, 1) := by decide +kernel
theorem dX1_init_0 : decode cX1_init 0 = .ok (.aload_n 0, 1) := by decide +kernel
theorem dX1_init_1 : decode cX1_init 1 = .ok (.invokespecial 3, 3) := by decide +kernel
theorem dX1_init_4 : decode cX1_init 4 = .ok (.aload_n 0, 1) := by decide +kernel
theorem dX1_init_5 : decode cX1_init 5 = .ok (.bipush 17, 2) := by decide +kernel
theorem dX1_init_7 : decode cX1_init 7 = .ok (.newarray .long, 2) := by decide +kernel
theorem dX1_init_9 : decode cX1_init 9 = .ok (.putfield 9, 3) := by decide +kernel
theorem dX1_init_12 : decode cX1_init 12 = .ok (.aload_n 0, 1) := by decide +kernel
theorem dX1_init_13 : decode cX1_init 13 = .ok (.iload_n 1, 1) := by decide +kernel
theorem dX1_init_14 : decode cX1_init 14 = .ok (.putfield 15, 3) := by decide +kernel
theorem dX1_init_17 : decode cX1_init 17 = .ok (.iload_n 1, 1) := by decide +kernel
theorem dX1_init_18 : decode cX1_init 18 = .ok (.iconst 2, 1) := by decide +kernel
theorem dX1_init_19 : decode cX1_init 19 = .ok (.if_icmp .ne 15, 3) := by decide +kernel
theorem dX1_init_22 : decode cX1_init 22 = .ok (.aload_n 0, 1) := by decide +kernel
theorem dX1_init_23 : decode cX1_init 23 = .ok (.getfield 9, 3) := by decide +kernel
theorem dX1_init_26 : decode cX1_init 26 = .ok (.bipush 13, 2) := by decide +kernel
theorem dX1_init_28 : decode cX1_init 28 = .ok (.iload_n 2, 1) := by decide +kernel
theorem dX1_init_29 : decode cX1_init 29 = .ok (.i2l, 1) := by decide +kernel
theorem dX1_init_30 : decode cX1_init 30 = .ok (.lastore, 1) := by decide +kernel
theorem dX1_init_31 : decode cX1_init 31 = .ok (.goto 17, 3) := by decide +kernel
theorem dX1_init_34 : decode cX1_init 34 = .ok (.iload_n 1, 1) := by decide +kernel
theorem dX1_init_35 : decode cX1_init 35 = .ok (.iconst 4, 1) := by decide +kernel
theorem dX1_init_36 : decode cX1_init 36 = .ok (.if_icmp .ne 12, 3) := by decide +kernel
theorem dX1_init_39 : decode cX1_init 39 = .ok (.aload_n 0, 1) := by decide +kernel
theorem dX1_init_40 : decode cX1_init 40 = .ok (.getfield 9, 3) := by decide +kernel
theorem dX1_init_43 : decode cX1_init 43 = .ok (.bipush 16, 2) := by decide +kernel
theorem dX1_init_45 : decode cX1_init 45 = .ok (.iload_n 2, 1) := by decide +kernel
theorem dX1_init_46 : decode cX1_init 46 = .ok (.i2l, 1) := by decide +kernel
theorem dX1_init_47 : decode cX1_init 47 = .ok (.lastore, 1) := by decide +kernel
theorem dX1_init_48 : decode cX1_init 48 = .ok (.return_, 1) := by decide +kernel
theorem dX1_isOf_0 : decode cX1_isOf 0 = .ok (.iload_n 1, 1) := by decide +kernel
theorem dX1_isOf_1 : decode cX1_isOf 1 = .ok (.iconst 5, 1) := by decide +kernel
theorem dX1_isOf_2 : decode cX1_isOf 2 = .ok (.if_icmp .ne 17, 3) := by decide +kernel
theorem dX1_isOf_5 : decode cX1_isOf 5 = .ok (.aload_n 0, 1) := by decide +kernel
theorem dX1_isOf_6 : decode cX1_isOf 6 = .ok (.getfield 15, 3) := by decide +kernel
theorem dX1_isOf_9 : decode cX1_isOf 9 = .ok (.iconst 4, 1) := by decide +kernel
theorem dX1_isOf_10 : decode cX1_isOf 10 = .ok (.if_icmp .eq 7, 3) := by decide +kernel
theorem dX1_isOf_13 : decode cX1_isOf 13 = .ok (.iconst 1, 1) := by decide +kernel
theorem dX1_isOf_14 : decode cX1_isOf 14 = .ok (.goto 4, 3) := by decide +kernel
theorem dX1_isOf_17 : decode cX1_isOf 17 = .ok (.iconst 0, 1) := by decide +kernel
theorem dX1_isOf_18 : decode cX1_isOf 18 = .ok (.ireturn, 1) := by decide +kernel
theorem dX1_isOf_19 : decode cX1_isOf 19 = .ok (.iload_n 1, 1) := by decide +kernel
theorem dX1_isOf_20 : decode cX1_isOf 20 = .ok (.iconst 2, 1) := by decide +kernel
theorem dX1_isOf_21 : decode cX1_isOf 21 = .ok (.if_icmp .gt 25, 3) := by decide +kernel
theorem dX1_isOf_24 : decode cX1_isOf 24 = .ok (.aload_n 0, 1) := by decide +kernel
theorem dX1_isOf_25 : decode cX1_isOf 25 = .ok (.getfield 15, 3) := by decide +kernel
theorem dX1_isOf_28 : decode cX1_isOf 28 = .ok (.iload_n 1, 1) := by decide +kernel
theorem dX1_isOf_29 : decode cX1_isOf 29 = .ok (.if_icmp .lt 15, 3) := by decide +kernel
theorem dX1_isOf_32 : decode cX1_isOf 32 = .ok (.aload_n 0, 1) := by decide +kernel
theorem dX1_isOf_33 : decode cX1_isOf 33 = .ok (.getfield 15, 3) := by decide +kernel
theorem dX1_isOf_36 : decode cX1_isOf 36 = .ok (.iconst 2, 1) := by decide +kernel
theorem dX1_isOf_37 : decode cX1_isOf 37 = .ok (.if_icmp .gt 7, 3) := by decide +kernel
theorem dX1_isOf_40 : decode cX1_isOf 40 = .ok (.iconst 1, 1) := by decide +kernel
theorem dX1_isOf_41 : decode cX1_isOf 41 = .ok (.goto 4, 3) := by decide +kernel
theorem dX1_isOf_44 : decode cX1_isOf 44 = .ok (.iconst 0, 1) := by decide +kernel
theorem dX1_isOf_45 : decode cX1_isOf 45 = .ok (.ireturn, 1) := by decide +kernel
theorem dX1_isOf_46 : decode cX1_isOf 46 = .ok (.aload_n 0, 1) := by decide +kernel
theorem dX1_isOf_47 : decode cX1_isOf 47 = .ok (.getfield 15, 3) := by decide +kernel
theorem dX1_isOf_50 : decode cX1_isOf 50 = .ok (.iload_n 1, 1) := by decide +kernel
theorem dX1_isOf_51 : decode cX1_isOf 51 = .ok (.if_icmp .ne 7, 3) := by decide +kernel
theorem dX1_isOf_54 : decode cX1_isOf 54 = .ok (.iconst 1, 1) := by decide +kernel
theorem dX1_isOf_55 : decode cX1_isOf 55 = .ok (.goto 4, 3) := by decide +kernel
theorem dX1_isOf_58 : decode cX1_isOf 58 = .ok (.iconst 0, 1) := by decide +kernel
theorem dX1_isOf_59 : decode cX1_isOf 59 = .ok (.ireturn, 1) := by decide +kernel
theorem dX1_held_0 : decode cX1_held 0 = .ok (.iload_n 1, 1) := by decide +kernel
theorem dX1_held_1 : decode cX1_held 1 = .ok (.lookupswitch 50 #[(8, 35), (11, 40), (15, 45)], 35) := by decide +kernel
theorem dX1_held_36 : decode cX1_held 36 = .ok (.aload_n 0, 1) := by decide +kernel
theorem dX1_held_37 : decode cX1_held 37 = .ok (.getfield 19, 3) := by decide +kernel
theorem dX1_held_40 : decode cX1_held 40 = .ok (.areturn, 1) := by decide +kernel
theorem dX1_held_41 : decode cX1_held 41 = .ok (.aload_n 0, 1) := by decide +kernel
theorem dX1_held_42 : decode cX1_held 42 = .ok (.getfield 23, 3) := by decide +kernel
theorem dX1_held_45 : decode cX1_held 45 = .ok (.areturn, 1) := by decide +kernel
theorem dX1_held_46 : decode cX1_held 46 = .ok (.aload_n 0, 1) := by decide +kernel
theorem dX1_held_47 : decode cX1_held 47 = .ok (.getfield 26, 3) := by decide +kernel
theorem dX1_held_50 : decode cX1_held 50 = .ok (.areturn, 1) := by decide +kernel
theorem dX1_held_51 : decode cX1_held 51 = .ok (.aconst_null, 1) := by decide +kernel
theorem dX1_held_52 : decode cX1_held 52 = .ok (.areturn, 1) := by decide +kernel
theorem dX1_hold_0 : decode cX1_hold 0 = .ok (.iload_n 1, 1) := by decide +kernel
theorem dX1_hold_1 : decode cX1_hold 1 = .ok (.lookupswitch 59 #[(8, 35), (11, 43), (15, 51)], 35) := by decide +kernel
theorem dX1_hold_36 : decode cX1_hold 36 = .ok (.aload_n 0, 1) := by decide +kernel
theorem dX1_hold_37 : decode cX1_hold 37 = .ok (.aload_n 2, 1) := by decide +kernel
theorem dX1_hold_38 : decode cX1_hold 38 = .ok (.putfield 19, 3) := by decide +kernel
theorem dX1_hold_41 : decode cX1_hold 41 = .ok (.goto 19, 3) := by decide +kernel
theorem dX1_hold_44 : decode cX1_hold 44 = .ok (.aload_n 0, 1) := by decide +kernel
theorem dX1_hold_45 : decode cX1_hold 45 = .ok (.aload_n 2, 1) := by decide +kernel
theorem dX1_hold_46 : decode cX1_hold 46 = .ok (.putfield 23, 3) := by decide +kernel
theorem dX1_hold_49 : decode cX1_hold 49 = .ok (.goto 11, 3) := by decide +kernel
theorem dX1_hold_52 : decode cX1_hold 52 = .ok (.aload_n 0, 1) := by decide +kernel
theorem dX1_hold_53 : decode cX1_hold 53 = .ok (.aload_n 2, 1) := by decide +kernel
theorem dX1_hold_54 : decode cX1_hold 54 = .ok (.putfield 26, 3) := by decide +kernel
theorem dX1_hold_57 : decode cX1_hold 57 = .ok (.goto 3, 3) := by decide +kernel
theorem dX1_hold_60 : decode cX1_hold 60 = .ok (.return_, 1) := by decide +kernel
theorem dX1_leadsTo_0 : decode cX1_leadsTo 0 = .ok (.aload_n 0, 1) := by decide +kernel
theorem dX1_leadsTo_1 : decode cX1_leadsTo 1 = .ok (.getfield 15, 3) := by decide +kernel
theorem dX1_leadsTo_4 : decode cX1_leadsTo 4 = .ok (.ifCond .ne 8, 3) := by decide +kernel
theorem dX1_leadsTo_7 : decode cX1_leadsTo 7 = .ok (.aload_n 0, 1) := by decide +kernel
theorem dX1_leadsTo_8 : decode cX1_leadsTo 8 = .ok (.getfield 19, 3) := by decide +kernel
theorem dX1_leadsTo_11 : decode cX1_leadsTo 11 = .ok (.areturn, 1) := by decide +kernel
theorem dX1_leadsTo_12 : decode cX1_leadsTo 12 = .ok (.aload_n 0, 1) := by decide +kernel
theorem dX1_leadsTo_13 : decode cX1_leadsTo 13 = .ok (.getfield 15, 3) := by decide +kernel
theorem dX1_leadsTo_16 : decode cX1_leadsTo 16 = .ok (.iconst 3, 1) := by decide +kernel
theorem dX1_leadsTo_17 : decode cX1_leadsTo 17 = .ok (.if_icmp .ne 10, 3) := by decide +kernel
theorem dX1_leadsTo_20 : decode cX1_leadsTo 20 = .ok (.aload_n 0, 1) := by decide +kernel
theorem dX1_leadsTo_21 : decode cX1_leadsTo 21 = .ok (.getfield 26, 3) := by decide +kernel
theorem dX1_leadsTo_24 : decode cX1_leadsTo 24 = .ok (.goto 7, 3) := by decide +kernel
theorem dX1_leadsTo_27 : decode cX1_leadsTo 27 = .ok (.aload_n 0, 1) := by decide +kernel
theorem dX1_leadsTo_28 : decode cX1_leadsTo 28 = .ok (.getfield 23, 3) := by decide +kernel
theorem dX1_leadsTo_31 : decode cX1_leadsTo 31 = .ok (.areturn, 1) := by decide +kernel
theorem dX1_name_0 : decode cX1_name 0 = .ok (.iconst 1, 1) := by decide +kernel
theorem dX1_name_1 : decode cX1_name 1 = .ok (.aload_n 0, 1) := by decide +kernel
theorem dX1_name_2 : decode cX1_name 2 = .ok (.getfield 9, 3) := by decide +kernel
theorem dX1_name_5 : decode cX1_name 5 = .ok (.iconst 4, 1) := by decide +kernel
theorem dX1_name_6 : decode cX1_name 6 = .ok (.laload, 1) := by decide +kernel
theorem dX1_name_7 : decode cX1_name 7 = .ok (.l2i, 1) := by decide +kernel
theorem dX1_name_8 : decode cX1_name 8 = .ok (.iadd, 1) := by decide +kernel
theorem dX1_name_9 : decode cX1_name 9 = .ok (.istore_n 1, 1) := by decide +kernel
theorem dX1_name_10 : decode cX1_name 10 = .ok (.aload_n 0, 1) := by decide +kernel
theorem dX1_name_11 : decode cX1_name 11 = .ok (.getfield 15, 3) := by decide +kernel
theorem dX1_name_14 : decode cX1_name 14 = .ok (.ifCond .ne 5, 3) := by decide +kernel
theorem dX1_name_17 : decode cX1_name 17 = .ok (.iload_n 1, 1) := by decide +kernel
theorem dX1_name_18 : decode cX1_name 18 = .ok (.ireturn, 1) := by decide +kernel
theorem dX1_name_19 : decode cX1_name 19 = .ok (.bipush 10, 2) := by decide +kernel
theorem dX1_name_21 : decode cX1_name 21 = .ok (.iload_n 1, 1) := by decide +kernel
theorem dX1_name_22 : decode cX1_name 22 = .ok (.imul, 1) := by decide +kernel
theorem dX1_name_23 : decode cX1_name 23 = .ok (.aload_n 0, 1) := by decide +kernel
theorem dX1_name_24 : decode cX1_name 24 = .ok (.getfield 9, 3) := by decide +kernel
theorem dX1_name_27 : decode cX1_name 27 = .ok (.bipush 10, 2) := by decide +kernel
theorem dX1_name_29 : decode cX1_name 29 = .ok (.laload, 1) := by decide +kernel
theorem dX1_name_30 : decode cX1_name 30 = .ok (.l2i, 1) := by decide +kernel
theorem dX1_name_31 : decode cX1_name 31 = .ok (.iadd, 1) := by decide +kernel
theorem dX1_name_32 : decode cX1_name 32 = .ok (.aload_n 0, 1) := by decide +kernel
theorem dX1_name_33 : decode cX1_name 33 = .ok (.getfield 9, 3) := by decide +kernel
theorem dX1_name_36 : decode cX1_name 36 = .ok (.bipush 13, 2) := by decide +kernel
theorem dX1_name_38 : decode cX1_name 38 = .ok (.laload, 1) := by decide +kernel
theorem dX1_name_39 : decode cX1_name 39 = .ok (.l2i, 1) := by decide +kernel
theorem dX1_name_40 : decode cX1_name 40 = .ok (.iadd, 1) := by decide +kernel
theorem dX1_name_41 : decode cX1_name 41 = .ok (.ireturn, 1) := by decide +kernel
theorem dX1_secret_0 : decode cX1_secret 0 = .ok (.aload_n 0, 1) := by decide +kernel
theorem dX1_secret_1 : decode cX1_secret 1 = .ok (.getfield 9, 3) := by decide +kernel
theorem dX1_secret_4 : decode cX1_secret 4 = .ok (.iconst 1, 1) := by decide +kernel
theorem dX1_secret_5 : decode cX1_secret 5 = .ok (.laload, 1) := by decide +kernel
theorem dX1_secret_6 : decode cX1_secret 6 = .ok (.l2i, 1) := by decide +kernel
theorem dX1_secret_7 : decode cX1_secret 7 = .ok (.aload_n 0, 1) := by decide +kernel
theorem dX1_secret_8 : decode cX1_secret 8 = .ok (.getfield 9, 3) := by decide +kernel
theorem dX1_secret_11 : decode cX1_secret 11 = .ok (.iconst 2, 1) := by decide +kernel
theorem dX1_secret_12 : decode cX1_secret 12 = .ok (.laload, 1) := by decide +kernel
theorem dX1_secret_13 : decode cX1_secret 13 = .ok (.l2i, 1) := by decide +kernel
theorem dX1_secret_14 : decode cX1_secret 14 = .ok (.iadd, 1) := by decide +kernel
theorem dX1_secret_15 : decode cX1_secret 15 = .ok (.ireturn, 1) := by decide +kernel
set_option maxRecDepth 20000 in
theorem ggX1_depth_X1_leadsTo : GoodIn wsX1_depth wsX1_leadsTo := goodIn_r _ [5, 6, 7, 8, 9, 10, 11, 12, 13, 14, 15] rfl (by decide +kernel)
set_option maxRecDepth 20000 in
theorem gX1_depth_X1_leadsTo : GoodIn wsX1_depth (wsV RX1 29 RX1 yX1_leadsTo wsX1_leadsTo) := goodIn_app (goodIn_r _ [1, 2, 3, 4] rfl (by decide +kernel)) ggX1_depth_X1_leadsTo
theorem dX1_depth_0 : decode cX1_depth 0 = .ok (.iconst 0, 1) := by decide +kernel
theorem dX1_depth_1 : decode cX1_depth 1 = .ok (.istore_n 1, 1) := by decide +kernel
theorem dX1_depth_2 : decode cX1_depth 2 = .ok (.aload_n 0, 1) := by decide +kernel
theorem dX1_depth_3 : decode cX1_depth 3 = .ok (.invokevirtual 29, 3) := by decide +kernel
theorem dX1_depth_6 : decode cX1_depth 6 = .ok (.astore_n 2, 1) := by decide +kernel
theorem dX1_depth_7 : decode cX1_depth 7 = .ok (.aload_n 2, 1) := by decide +kernel
theorem dX1_depth_8 : decode cX1_depth 8 = .ok (.ifnull 20, 3) := by decide +kernel
theorem dX1_depth_11 : decode cX1_depth 11 = .ok (.iload_n 1, 1) := by decide +kernel
theorem dX1_depth_12 : decode cX1_depth 12 = .ok (.bipush 50, 2) := by decide +kernel
theorem dX1_depth_14 : decode cX1_depth 14 = .ok (.if_icmp .ge 14, 3) := by decide +kernel
theorem dX1_depth_17 : decode cX1_depth 17 = .ok (.iinc 1 1, 3) := by decide +kernel
theorem dX1_depth_20 : decode cX1_depth 20 = .ok (.aload_n 2, 1) := by decide +kernel
theorem dX1_depth_21 : decode cX1_depth 21 = .ok (.invokevirtual 29, 3) := by decide +kernel
theorem dX1_depth_24 : decode cX1_depth 24 = .ok (.astore_n 2, 1) := by decide +kernel
theorem dX1_depth_25 : decode cX1_depth 25 = .ok (.goto (-18), 3) := by decide +kernel
theorem dX1_depth_28 : decode cX1_depth 28 = .ok (.iload_n 1, 1) := by decide +kernel
theorem dX1_depth_29 : decode cX1_depth 29 = .ok (.ireturn, 1) := by decide +kernel
theorem dX1_kind_0 : decode cX1_kind 0 = .ok (.aload_n 0, 1) := by decide +kernel
theorem dX1_kind_1 : decode cX1_kind 1 = .ok (.getfield 15, 3) := by decide +kernel
theorem dX1_kind_4 : decode cX1_kind 4 = .ok (.iconst 3, 1) := by decide +kernel
theorem dX1_kind_5 : decode cX1_kind 5 = .ok (.if_icmp .ne 6, 3) := by decide +kernel
theorem dX1_kind_8 : decode cX1_kind 8 = .ok (.bipush 7, 2) := by decide +kernel
theorem dX1_kind_10 : decode cX1_kind 10 = .ok (.ireturn, 1) := by decide +kernel
theorem dX1_kind_11 : decode cX1_kind 11 = .ok (.iconst 0, 1) := by decide +kernel
theorem dX1_kind_12 : decode cX1_kind 12 = .ok (.istore_n 1, 1) := by decide +kernel
theorem dX1_kind_13 : decode cX1_kind 13 = .ok (.iconst 1, 1) := by decide +kernel
theorem dX1_kind_14 : decode cX1_kind 14 = .ok (.istore_n 2, 1) := by decide +kernel
theorem dX1_kind_15 : decode cX1_kind 15 = .ok (.aload_n 0, 1) := by decide +kernel
theorem dX1_kind_16 : decode cX1_kind 16 = .ok (.astore_n 3, 1) := by decide +kernel
theorem dX1_kind_17 : decode cX1_kind 17 = .ok (.iconst 0, 1) := by decide +kernel
theorem dX1_kind_18 : decode cX1_kind 18 = .ok (.istore 4, 2) := by decide +kernel
theorem dX1_kind_20 : decode cX1_kind 20 = .ok (.iload 4, 2) := by decide +kernel
theorem dX1_kind_22 : decode cX1_kind 22 = .ok (.bipush 8, 2) := by decide +kernel
theorem dX1_kind_24 : decode cX1_kind 24 = .ok (.if_icmp .ge 34, 3) := by decide +kernel
theorem dX1_kind_27 : decode cX1_kind 27 = .ok (.aload_n 3, 1) := by decide +kernel
theorem dX1_kind_28 : decode cX1_kind 28 = .ok (.ifnull 30, 3) := by decide +kernel
theorem dX1_kind_31 : decode cX1_kind 31 = .ok (.iload_n 1, 1) := by decide +kernel
theorem dX1_kind_32 : decode cX1_kind 32 = .ok (.iload_n 2, 1) := by decide +kernel
theorem dX1_kind_33 : decode cX1_kind 33 = .ok (.aload_n 3, 1) := by decide +kernel
theorem dX1_kind_34 : decode cX1_kind 34 = .ok (.getfield 15, 3) := by decide +kernel
theorem dX1_kind_37 : decode cX1_kind 37 = .ok (.iconst 1, 1) := by decide +kernel
theorem dX1_kind_38 : decode cX1_kind 38 = .ok (.iadd, 1) := by decide +kernel
theorem dX1_kind_39 : decode cX1_kind 39 = .ok (.imul, 1) := by decide +kernel
theorem dX1_kind_40 : decode cX1_kind 40 = .ok (.iadd, 1) := by decide +kernel
theorem dX1_kind_41 : decode cX1_kind 41 = .ok (.istore_n 1, 1) := by decide +kernel
theorem dX1_kind_42 : decode cX1_kind 42 = .ok (.iload_n 2, 1) := by decide +kernel
theorem dX1_kind_43 : decode cX1_kind 43 = .ok (.bipush 10, 2) := by decide +kernel
theorem dX1_kind_45 : decode cX1_kind 45 = .ok (.imul, 1) := by decide +kernel
theorem dX1_kind_46 : decode cX1_kind 46 = .ok (.istore_n 2, 1) := by decide +kernel
theorem dX1_kind_47 : decode cX1_kind 47 = .ok (.aload_n 3, 1) := by decide +kernel
theorem dX1_kind_48 : decode cX1_kind 48 = .ok (.getfield 19, 3) := by decide +kernel
theorem dX1_kind_51 : decode cX1_kind 51 = .ok (.astore_n 3, 1) := by decide +kernel
theorem dX1_kind_52 : decode cX1_kind 52 = .ok (.iinc 4 1, 3) := by decide +kernel
theorem dX1_kind_55 : decode cX1_kind 55 = .ok (.goto (-35), 3) := by decide +kernel
theorem dX1_kind_58 : decode cX1_kind 58 = .ok (.iload_n 1, 1) := by decide +kernel
theorem dX1_kind_59 : decode cX1_kind 59 = .ok (.ireturn, 1) := by decide +kernel
set_option maxRecDepth 20000 in
theorem ggX2_init_X0_init : GoodIn wsX2_init wsX0_init := goodIn_r _ [15, 16, 2, 3, 17, 18, 19, 20, 21, 31, 32, 33, 34] rfl (by decide +kernel)
set_option maxRecDepth 20000 in
theorem gX2_init_X0_init_n17 : GoodIn wsX2_init (wsX0_init) := ggX2_init_X0_init
