theorem dX0_init_0 : decode cX0_init 0 = .ok (.aload_n 0, 1) := by decide +kernel
theorem dX0_init_1 : decode cX0_init 1 = .ok (.invokespecial 3, 3) := by decide +kernel
theorem dX0_init_4 : decode cX0_init 4 = .ok (.aload_n 0, 1) := by decide +kernel
theorem dX0_init_5 : decode cX0_init 5 = .ok (.iconst 0, 1) := by decide +kernel
theorem dX0_init_6 : decode cX0_init 6 = .ok (.putfield 9, 3) := by decide +kernel
theorem dX0_init_9 : decode cX0_init 9 = .ok (.aload_n 0, 1) := by decide +kernel
theorem dX0_init_10 : decode cX0_init 10 = .ok (.iconst 4, 1) := by decide +kernel
theorem dX0_init_11 : decode cX0_init 11 = .ok (.newarray .long, 2) := by decide +kernel
theorem dX0_init_13 : decode cX0_init 13 = .ok (.putfield 15, 3) := by decide +kernel
theorem dX0_init_16 : decode cX0_init 16 = .ok (.aload_n 0, 1) := by decide +kernel
theorem dX0_init_17 : decode cX0_init 17 = .ok (.iconst 4, 1) := by decide +kernel
theorem dX0_init_18 : decode cX0_init 18 = .ok (.newarray .long, 2) := by decide +kernel
theorem dX0_init_20 : decode cX0_init 20 = .ok (.putfield 19, 3) := by decide +kernel
theorem dX0_init_23 : decode cX0_init 23 = .ok (.return_, 1) := by decide +kernel
theorem dX0_start_0 : decode cX0_start 0 = .ok (.aload_n 0, 1) := by decide +kernel
theorem dX0_start_1 : decode cX0_start 1 = .ok (.iconst 1, 1) := by decide +kernel
theorem dX0_start_2 : decode cX0_start 2 = .ok (.putfield 9, 3) := by decide +kernel
theorem dX0_start_5 : decode cX0_start 5 = .ok (.return_, 1) := by decide +kernel
theorem dX0_stop_0 : decode cX0_stop 0 = .ok (.aload_n 0, 1) := by decide +kernel
theorem dX0_stop_1 : decode cX0_stop 1 = .ok (.iconst 0, 1) := by decide +kernel
theorem dX0_stop_2 : decode cX0_stop 2 = .ok (.putfield 9, 3) := by decide +kernel
theorem dX0_stop_5 : decode cX0_stop 5 = .ok (.return_, 1) := by decide +kernel
theorem dX0_isSomething_0 : decode cX0_isSomething 0 = .ok (.aload_n 0, 1) := by decide +kernel
theorem dX0_isSomething_1 : decode cX0_isSomething 1 = .ok (.getfield 9, 3) := by decide +kernel
theorem dX0_isSomething_4 : decode cX0_isSomething 4 = .ok (.ireturn, 1) := by decide +kernel
theorem dX0_lowOf_0 : decode cX0_lowOf 0 = .ok (.aload_n 0, 1) := by decide +kernel
theorem dX0_lowOf_1 : decode cX0_lowOf 1 = .ok (.getfield 15, 3) := by decide +kernel
theorem dX0_lowOf_4 : decode cX0_lowOf 4 = .ok (.iload_n 1, 1) := by decide +kernel
theorem dX0_lowOf_5 : decode cX0_lowOf 5 = .ok (.laload, 1) := by decide +kernel
theorem dX0_lowOf_6 : decode cX0_lowOf 6 = .ok (.lreturn, 1) := by decide +kernel
theorem dX0_highOf_0 : decode cX0_highOf 0 = .ok (.aload_n 0, 1) := by decide +kernel
theorem dX0_highOf_1 : decode cX0_highOf 1 = .ok (.getfield 19, 3) := by decide +kernel
theorem dX0_highOf_4 : decode cX0_highOf 4 = .ok (.iload_n 1, 1) := by decide +kernel
theorem dX0_highOf_5 : decode cX0_highOf 5 = .ok (.laload, 1) := by decide +kernel
theorem dX0_highOf_6 : decode cX0_highOf 6 = .ok (.lreturn, 1) := by decide +kernel
theorem dX0_put_0 : decode cX0_put 0 = .ok (.aload_n 0, 1) := by decide +kernel
theorem dX0_put_1 : decode cX0_put 1 = .ok (.getfield 15, 3) := by decide +kernel
theorem dX0_put_4 : decode cX0_put 4 = .ok (.iload_n 1, 1) := by decide +kernel
theorem dX0_put_5 : decode cX0_put 5 = .ok (.lload_n 2, 1) := by decide +kernel
theorem dX0_put_6 : decode cX0_put 6 = .ok (.lastore, 1) := by decide +kernel
theorem dX0_put_7 : decode cX0_put 7 = .ok (.aload_n 0, 1) := by decide +kernel
theorem dX0_put_8 : decode cX0_put 8 = .ok (.getfield 19, 3) := by decide +kernel
theorem dX0_put_11 : decode cX0_put 11 = .ok (.iload_n 1, 1) := by decide +kernel
theorem dX0_put_12 : decode cX0_put 12 = .ok (.lload 4, 2) := by decide +kernel
theorem dX0_put_14 : decode cX0_put 14 = .ok (.lastore, 1) := by decide +kernel
theorem dX0_put_15 : decode cX0_put 15 = .ok (.return_, 1) := by decide +kernel
set_option maxRecDepth 20000 in
theorem ggX0_raiseLow_X0_stopIfCrossed : GoodIn wsX0_raiseLow wsX0_stopIfCrossed := goodIn_r _ [10, 1, 11, 12, 13, 14, 15] (by decide +kernel) (by decide +kernel)
set_option maxRecDepth 20000 in
theorem gX0_raiseLow_X0_stopIfCrossed : GoodIn wsX0_raiseLow (wsV RX0 28 RX0 yX0_stopIfCrossed wsX0_stopIfCrossed) := goodIn_app (goodIn_of _ (by decide +kernel)) ggX0_raiseLow_X0_stopIfCrossed
theorem dX0_raiseLow_0 : decode cX0_raiseLow 0 = .ok (.aload_n 0, 1) := by decide +kernel
theorem dX0_raiseLow_1 : decode cX0_raiseLow 1 = .ok (.getfield 15, 3) := by decide +kernel
theorem dX0_raiseLow_4 : decode cX0_raiseLow 4 = .ok (.iload_n 1, 1) := by decide +kernel
theorem dX0_raiseLow_5 : decode cX0_raiseLow 5 = .ok (.aload_n 0, 1) := by decide +kernel
theorem dX0_raiseLow_6 : decode cX0_raiseLow 6 = .ok (.getfield 15, 3) := by decide +kernel
theorem dX0_raiseLow_9 : decode cX0_raiseLow 9 = .ok (.iload_n 1, 1) := by decide +kernel
theorem dX0_raiseLow_10 : decode cX0_raiseLow 10 = .ok (.laload, 1) := by decide +kernel
theorem dX0_raiseLow_11 : decode cX0_raiseLow 11 = .ok (.lload_n 2, 1) := by decide +kernel
theorem dX0_raiseLow_12 : decode cX0_raiseLow 12 = .ok (.invokestatic 22, 3) := by decide +kernel
theorem dX0_raiseLow_15 : decode cX0_raiseLow 15 = .ok (.lastore, 1) := by decide +kernel
theorem dX0_raiseLow_16 : decode cX0_raiseLow 16 = .ok (.aload_n 0, 1) := by decide +kernel
theorem dX0_raiseLow_17 : decode cX0_raiseLow 17 = .ok (.iload_n 1, 1) := by decide +kernel
theorem dX0_raiseLow_18 : decode cX0_raiseLow 18 = .ok (.invokevirtual 28, 3) := by decide +kernel
theorem dX0_raiseLow_21 : decode cX0_raiseLow 21 = .ok (.return_, 1) := by decide +kernel
set_option maxRecDepth 20000 in
theorem ggX0_lowerHigh_X0_stopIfCrossed : GoodIn wsX0_lowerHigh wsX0_stopIfCrossed := goodIn_r _ [10, 11, 1, 12, 13, 14, 15] (by decide +kernel) (by decide +kernel)
set_option maxRecDepth 20000 in
theorem gX0_lowerHigh_X0_stopIfCrossed : GoodIn wsX0_lowerHigh (wsV RX0 28 RX0 yX0_stopIfCrossed wsX0_stopIfCrossed) := goodIn_app (goodIn_of _ (by decide +kernel)) ggX0_lowerHigh_X0_stopIfCrossed
theorem dX0_lowerHigh_0 : decode cX0_lowerHigh 0 = .ok (.aload_n 0, 1) := by decide +kernel
theorem dX0_lowerHigh_1 : decode cX0_lowerHigh 1 = .ok (.getfield 19, 3) := by decide +kernel
theorem dX0_lowerHigh_4 : decode cX0_lowerHigh 4 = .ok (.iload_n 1, 1) := by decide +kernel
theorem dX0_lowerHigh_5 : decode cX0_lowerHigh 5 = .ok (.aload_n 0, 1) := by decide +kernel
theorem dX0_lowerHigh_6 : decode cX0_lowerHigh 6 = .ok (.getfield 19, 3) := by decide +kernel
theorem dX0_lowerHigh_9 : decode cX0_lowerHigh 9 = .ok (.iload_n 1, 1) := by decide +kernel
theorem dX0_lowerHigh_10 : decode cX0_lowerHigh 10 = .ok (.laload, 1) := by decide +kernel
theorem dX0_lowerHigh_11 : decode cX0_lowerHigh 11 = .ok (.lload_n 2, 1) := by decide +kernel
theorem dX0_lowerHigh_12 : decode cX0_lowerHigh 12 = .ok (.invokestatic 32, 3) := by decide +kernel
theorem dX0_lowerHigh_15 : decode cX0_lowerHigh 15 = .ok (.lastore, 1) := by decide +kernel
theorem dX0_lowerHigh_16 : decode cX0_lowerHigh 16 = .ok (.aload_n 0, 1) := by decide +kernel
theorem dX0_lowerHigh_17 : decode cX0_lowerHigh 17 = .ok (.iload_n 1, 1) := by decide +kernel
theorem dX0_lowerHigh_18 : decode cX0_lowerHigh 18 = .ok (.invokevirtual 28, 3) := by decide +kernel
theorem dX0_lowerHigh_21 : decode cX0_lowerHigh 21 = .ok (.return_, 1) := by decide +kernel
theorem dX0_stopIfCrossed_0 : decode cX0_stopIfCrossed 0 = .ok (.aload_n 0, 1) := by decide +kernel
theorem dX0_stopIfCrossed_1 : decode cX0_stopIfCrossed 1 = .ok (.getfield 15, 3) := by decide +kernel
theorem dX0_stopIfCrossed_4 : decode cX0_stopIfCrossed 4 = .ok (.iload_n 1, 1) := by decide +kernel
theorem dX0_stopIfCrossed_5 : decode cX0_stopIfCrossed 5 = .ok (.laload, 1) := by decide +kernel
theorem dX0_stopIfCrossed_6 : decode cX0_stopIfCrossed 6 = .ok (.aload_n 0, 1) := by decide +kernel
theorem dX0_stopIfCrossed_7 : decode cX0_stopIfCrossed 7 = .ok (.getfield 19, 3) := by decide +kernel
theorem dX0_stopIfCrossed_10 : decode cX0_stopIfCrossed 10 = .ok (.iload_n 1, 1) := by decide +kernel
theorem dX0_stopIfCrossed_11 : decode cX0_stopIfCrossed 11 = .ok (.laload, 1) := by decide +kernel
theorem dX0_stopIfCrossed_12 : decode cX0_stopIfCrossed 12 = .ok (.lcmp, 1) := by decide +kernel
theorem dX0_stopIfCrossed_13 : decode cX0_stopIfCrossed 13 = .ok (.ifCond .le 8, 3) := by decide +kernel
theorem dX0_stopIfCrossed_16 : decode cX0_stopIfCrossed 16 = .ok (.aload_n 0, 1) := by decide +kernel
theorem dX0_stopIfCrossed_17 : decode cX0_stopIfCrossed 17 = .ok (.iconst 0, 1) := by decide +kernel
theorem dX0_stopIfCrossed_18 : decode cX0_stopIfCrossed 18 = .ok (.putfield 9, 3) := by decide +kernel
theorem dX0_stopIfCrossed_21 : decode cX0_stopIfCrossed 21 = .ok (.return_, 1) := by decide +kernel
theorem dX1_init_0 : decode cX1_init 0 = .ok (.aload_n 0, 1) := by decide +kernel
theorem dX1_init_1 : decode cX1_init 1 = .ok (.invokespecial 1, 3) := by decide +kernel
theorem dX1_init_4 : decode cX1_init 4 = .ok (.aload_n 0, 1) := by decide +kernel
theorem dX1_init_5 : decode cX1_init 5 = .ok (.iconst 1, 1) := by decide +kernel
theorem dX1_init_6 : decode cX1_init 6 = .ok (.putfield 7, 3) := by decide +kernel
theorem dX1_init_9 : decode cX1_init 9 = .ok (.aload_n 0, 1) := by decide +kernel
theorem dX1_init_10 : decode cX1_init 10 = .ok (.lconst 0, 1) := by decide +kernel
theorem dX1_init_11 : decode cX1_init 11 = .ok (.putfield 13, 3) := by decide +kernel
theorem dX1_init_14 : decode cX1_init 14 = .ok (.aload_n 0, 1) := by decide +kernel
theorem dX1_init_15 : decode cX1_init 15 = .ok (.lconst 0, 1) := by decide +kernel
theorem dX1_init_16 : decode cX1_init 16 = .ok (.putfield 17, 3) := by decide +kernel
theorem dX1_init_19 : decode cX1_init 19 = .ok (.return_, 1) := by decide +kernel
theorem dX1_forget_0 : decode cX1_forget 0 = .ok (.aload_n 0, 1) := by decide +kernel
theorem dX1_forget_1 : decode cX1_forget 1 = .ok (.iconst 1, 1) := by decide +kernel
theorem dX1_forget_2 : decode cX1_forget 2 = .ok (.putfield 7, 3) := by decide +kernel
theorem dX1_forget_5 : decode cX1_forget 5 = .ok (.return_, 1) := by decide +kernel
theorem dX1_isEmpty_0 : decode cX1_isEmpty 0 = .ok (.aload_n 0, 1) := by decide +kernel
theorem dX1_isEmpty_1 : decode cX1_isEmpty 1 = .ok (.getfield 7, 3) := by decide +kernel
theorem dX1_isEmpty_4 : decode cX1_isEmpty 4 = .ok (.ireturn, 1) := by decide +kernel
theorem dX1_take_0 : decode cX1_take 0 = .ok (.aload_n 0, 1) := by decide +kernel
theorem dX1_take_1 : decode cX1_take 1 = .ok (.getfield 7, 3) := by decide +kernel
theorem dX1_take_4 : decode cX1_take 4 = .ok (.ifCond .ne 12, 3) := by decide +kernel
theorem dX1_take_7 : decode cX1_take 7 = .ok (.lload_n 1, 1) := by decide +kernel
theorem dX1_take_8 : decode cX1_take 8 = .ok (.aload_n 0, 1) := by decide +kernel
theorem dX1_take_9 : decode cX1_take 9 = .ok (.getfield 13, 3) := by decide +kernel
theorem dX1_take_12 : decode cX1_take 12 = .ok (.lcmp, 1) := by decide +kernel
theorem dX1_take_13 : decode cX1_take 13 = .ok (.ifCond .ge 8, 3) := by decide +kernel
theorem dX1_take_16 : decode cX1_take 16 = .ok (.aload_n 0, 1) := by decide +kernel
theorem dX1_take_17 : decode cX1_take 17 = .ok (.lload_n 1, 1) := by decide +kernel
theorem dX1_take_18 : decode cX1_take 18 = .ok (.putfield 13, 3) := by decide +kernel
theorem dX1_take_21 : decode cX1_take 21 = .ok (.aload_n 0, 1) := by decide +kernel
theorem dX1_take_22 : decode cX1_take 22 = .ok (.getfield 7, 3) := by decide +kernel
theorem dX1_take_25 : decode cX1_take 25 = .ok (.ifCond .ne 12, 3) := by decide +kernel
theorem dX1_take_28 : decode cX1_take 28 = .ok (.lload_n 1, 1) := by decide +kernel
theorem dX1_take_29 : decode cX1_take 29 = .ok (.aload_n 0, 1) := by decide +kernel
theorem dX1_take_30 : decode cX1_take 30 = .ok (.getfield 17, 3) := by decide +kernel
theorem dX1_take_33 : decode cX1_take 33 = .ok (.lcmp, 1) := by decide +kernel
theorem dX1_take_34 : decode cX1_take 34 = .ok (.ifCond .le 8, 3) := by decide +kernel
theorem dX1_take_37 : decode cX1_take 37 = .ok (.aload_n 0, 1) := by decide +kernel
theorem dX1_take_38 : decode cX1_take 38 = .ok (.lload_n 1, 1) := by decide +kernel
theorem dX1_take_39 : decode cX1_take 39 = .ok (.putfield 17, 3) := by decide +kernel
theorem dX1_take_42 : decode cX1_take 42 = .ok (.aload_n 0, 1) := by decide +kernel
theorem dX1_take_43 : decode cX1_take 43 = .ok (.iconst 0, 1) := by decide +kernel
theorem dX1_take_44 : decode cX1_take 44 = .ok (.putfield 7, 3) := by decide +kernel
theorem dX1_take_47 : decode cX1_take 47 = .ok (.return_, 1) := by decide +kernel
set_option maxRecDepth 20000 in
theorem ggX1_wrapTogether_X1_wrappedLeast : GoodIn wsX1_wrapTogether wsX1_wrappedLeast := goodIn_r _ [7, 1, 12, 13, 14] (by decide +kernel) (by decide +kernel)
set_option maxRecDepth 20000 in
theorem gX1_wrapTogether_X1_wrappedLeast : GoodIn wsX1_wrapTogether (wsV RX1 20 RX1 yX1_wrappedLeast wsX1_wrappedLeast) := goodIn_app (goodIn_of _ (by decide +kernel)) ggX1_wrapTogether_X1_wrappedLeast
set_option maxRecDepth 20000 in
theorem ggX1_wrapTogether_X1_wrappedGreatest : GoodIn wsX1_wrapTogether wsX1_wrappedGreatest := goodIn_r _ [11, 2, 12, 13, 14] (by decide +kernel) (by decide +kernel)
set_option maxRecDepth 20000 in
theorem gX1_wrapTogether_X1_wrappedGreatest : GoodIn wsX1_wrapTogether (wsV RX1 24 RX1 yX1_wrappedGreatest wsX1_wrappedGreatest) := goodIn_app (goodIn_of _ (by decide +kernel)) ggX1_wrapTogether_X1_wrappedGreatest
theorem dX1_wrapTogether_0 : decode cX1_wrapTogether 0 = .ok (.aload_n 0, 1) := by decide +kernel
theorem dX1_wrapTogether_1 : decode cX1_wrapTogether 1 = .ok (.getfield 13, 3) := by decide +kernel
theorem dX1_wrapTogether_4 : decode cX1_wrapTogether 4 = .ok (.aload_n 0, 1) := by decide +kernel
theorem dX1_wrapTogether_5 : decode cX1_wrapTogether 5 = .ok (.invokevirtual 20, 3) := by decide +kernel
theorem dX1_wrapTogether_8 : decode cX1_wrapTogether 8 = .ok (.lsub, 1) := by decide +kernel
theorem dX1_wrapTogether_9 : decode cX1_wrapTogether 9 = .ok (.aload_n 0, 1) := by decide +kernel
theorem dX1_wrapTogether_10 : decode cX1_wrapTogether 10 = .ok (.getfield 17, 3) := by decide +kernel
theorem dX1_wrapTogether_13 : decode cX1_wrapTogether 13 = .ok (.aload_n 0, 1) := by decide +kernel
theorem dX1_wrapTogether_14 : decode cX1_wrapTogether 14 = .ok (.invokevirtual 24, 3) := by decide +kernel
theorem dX1_wrapTogether_17 : decode cX1_wrapTogether 17 = .ok (.lsub, 1) := by decide +kernel
theorem dX1_wrapTogether_18 : decode cX1_wrapTogether 18 = .ok (.lcmp, 1) := by decide +kernel
theorem dX1_wrapTogether_19 : decode cX1_wrapTogether 19 = .ok (.ifCond .ne 7, 3) := by decide +kernel
theorem dX1_wrapTogether_22 : decode cX1_wrapTogether 22 = .ok (.iconst 1, 1) := by decide +kernel
theorem dX1_wrapTogether_23 : decode cX1_wrapTogether 23 = .ok (.goto 4, 3) := by decide +kernel
theorem dX1_wrapTogether_26 : decode cX1_wrapTogether 26 = .ok (.iconst 0, 1) := by decide +kernel
theorem dX1_wrapTogether_27 : decode cX1_wrapTogether 27 = .ok (.ireturn, 1) := by decide +kernel
theorem dX1_wrappedLeast_0 : decode cX1_wrappedLeast 0 = .ok (.aload_n 0, 1) := by decide +kernel
theorem dX1_wrappedLeast_1 : decode cX1_wrappedLeast 1 = .ok (.getfield 13, 3) := by decide +kernel
theorem dX1_wrappedLeast_4 : decode cX1_wrappedLeast 4 = .ok (.l2i, 1) := by decide +kernel
theorem dX1_wrappedLeast_5 : decode cX1_wrappedLeast 5 = .ok (.i2l, 1) := by decide +kernel
theorem dX1_wrappedLeast_6 : decode cX1_wrappedLeast 6 = .ok (.lreturn, 1) := by decide +kernel
theorem dX1_wrappedGreatest_0 : decode cX1_wrappedGreatest 0 = .ok (.aload_n 0, 1) := by decide +kernel
theorem dX1_wrappedGreatest_1 : decode cX1_wrappedGreatest 1 = .ok (.getfield 17, 3) := by decide +kernel
theorem dX1_wrappedGreatest_4 : decode cX1_wrappedGreatest 4 = .ok (.l2i, 1) := by decide +kernel
theorem dX1_wrappedGreatest_5 : decode cX1_wrappedGreatest 5 = .ok (.i2l, 1) := by decide +kernel
theorem dX1_wrappedGreatest_6 : decode cX1_wrappedGreatest 6 = .ok (.lreturn, 1) := by decide +kernel
theorem dX2_init_0 : decode cX2_init 0 = .ok (.aload_n 0, 1) := by decide +kernel
theorem dX2_init_1 : decode cX2_init 1 = .ok (.invokespecial 3, 3) := by decide +kernel
theorem dX2_init_4 : decode cX2_init 4 = .ok (.aload_n 0, 1) := by decide +kernel
theorem dX2_init_5 : decode cX2_init 5 = .ok (.bipush 24, 2) := by decide +kernel
theorem dX2_init_7 : decode cX2_init 7 = .ok (.newarray .boolean, 2) := by decide +kernel
theorem dX2_init_9 : decode cX2_init 9 = .ok (.putfield 9, 3) := by decide +kernel
theorem dX2_init_12 : decode cX2_init 12 = .ok (.aload_n 0, 1) := by decide +kernel
theorem dX2_init_13 : decode cX2_init 13 = .ok (.bipush 96, 2) := by decide +kernel
theorem dX2_init_15 : decode cX2_init 15 = .ok (.newarray .long, 2) := by decide +kernel
theorem dX2_init_17 : decode cX2_init 17 = .ok (.putfield 15, 3) := by decide +kernel
theorem dX2_init_20 : decode cX2_init 20 = .ok (.aload_n 0, 1) := by decide +kernel
theorem dX2_init_21 : decode cX2_init 21 = .ok (.bipush 96, 2) := by decide +kernel
theorem dX2_init_23 : decode cX2_init 23 = .ok (.newarray .long, 2) := by decide +kernel
theorem dX2_init_25 : decode cX2_init 25 = .ok (.putfield 19, 3) := by decide +kernel
theorem dX2_init_28 : decode cX2_init 28 = .ok (.return_, 1) := by decide +kernel
theorem dX2_begin_0 : decode cX2_begin 0 = .ok (.iconst 0, 1) := by decide +kernel
theorem dX2_begin_1 : decode cX2_begin 1 = .ok (.istore_n 1, 1) := by decide +kernel
theorem dX2_begin_2 : decode cX2_begin 2 = .ok (.iload_n 1, 1) := by decide +kernel
theorem dX2_begin_3 : decode cX2_begin 3 = .ok (.bipush 24, 2) := by decide +kernel
theorem dX2_begin_5 : decode cX2_begin 5 = .ok (.if_icmp .ge 24, 3) := by decide +kernel
theorem dX2_begin_8 : decode cX2_begin 8 = .ok (.aload_n 0, 1) := by decide +kernel
theorem dX2_begin_9 : decode cX2_begin 9 = .ok (.getfield 9, 3) := by decide +kernel
theorem dX2_begin_12 : decode cX2_begin 12 = .ok (.iload_n 1, 1) := by decide +kernel
theorem dX2_begin_13 : decode cX2_begin 13 = .ok (.iload_n 1, 1) := by decide +kernel
theorem dX2_begin_14 : decode cX2_begin 14 = .ok (.ifCond .ne 7, 3) := by decide +kernel
theorem dX2_begin_17 : decode cX2_begin 17 = .ok (.iconst 1, 1) := by decide +kernel
theorem dX2_begin_18 : decode cX2_begin 18 = .ok (.goto 4, 3) := by decide +kernel
theorem dX2_begin_21 : decode cX2_begin 21 = .ok (.iconst 0, 1) := by decide +kernel
theorem dX2_begin_22 : decode cX2_begin 22 = .ok (.bastore, 1) := by decide +kernel
theorem dX2_begin_23 : decode cX2_begin 23 = .ok (.iinc 1 1, 3) := by decide +kernel
theorem dX2_begin_26 : decode cX2_begin 26 = .ok (.goto (-24), 3) := by decide +kernel
theorem dX2_begin_29 : decode cX2_begin 29 = .ok (.iconst 0, 1) := by decide +kernel
theorem dX2_begin_30 : decode cX2_begin 30 = .ok (.istore_n 1, 1) := by decide +kernel
theorem dX2_begin_31 : decode cX2_begin 31 = .ok (.iload_n 1, 1) := by decide +kernel
theorem dX2_begin_32 : decode cX2_begin 32 = .ok (.iconst 4, 1) := by decide +kernel
theorem dX2_begin_33 : decode cX2_begin 33 = .ok (.if_icmp .ge 23, 3) := by decide +kernel
theorem dX2_begin_36 : decode cX2_begin 36 = .ok (.aload_n 0, 1) := by decide +kernel
theorem dX2_begin_37 : decode cX2_begin 37 = .ok (.getfield 15, 3) := by decide +kernel
theorem dX2_begin_40 : decode cX2_begin 40 = .ok (.iload_n 1, 1) := by decide +kernel
theorem dX2_begin_41 : decode cX2_begin 41 = .ok (.lconst 0, 1) := by decide +kernel
theorem dX2_begin_42 : decode cX2_begin 42 = .ok (.lastore, 1) := by decide +kernel
theorem dX2_begin_43 : decode cX2_begin 43 = .ok (.aload_n 0, 1) := by decide +kernel
theorem dX2_begin_44 : decode cX2_begin 44 = .ok (.getfield 19, 3) := by decide +kernel
theorem dX2_begin_47 : decode cX2_begin 47 = .ok (.iload_n 1, 1) := by decide +kernel
theorem dX2_begin_48 : decode cX2_begin 48 = .ok (.lconst 0, 1) := by decide +kernel
theorem dX2_begin_49 : decode cX2_begin 49 = .ok (.lastore, 1) := by decide +kernel
theorem dX2_begin_50 : decode cX2_begin 50 = .ok (.iinc 1 1, 3) := by decide +kernel
theorem dX2_begin_53 : decode cX2_begin 53 = .ok (.goto (-22), 3) := by decide +kernel
theorem dX2_begin_56 : decode cX2_begin 56 = .ok (.return_, 1) := by decide +kernel
theorem dX2_isSomewhere_0 : decode cX2_isSomewhere 0 = .ok (.aload_n 0, 1) := by decide +kernel
theorem dX2_isSomewhere_1 : decode cX2_isSomewhere 1 = .ok (.getfield 9, 3) := by decide +kernel
theorem dX2_isSomewhere_4 : decode cX2_isSomewhere 4 = .ok (.iload_n 1, 1) := by decide +kernel
theorem dX2_isSomewhere_5 : decode cX2_isSomewhere 5 = .ok (.baload, 1) := by decide +kernel
theorem dX2_isSomewhere_6 : decode cX2_isSomewhere 6 = .ok (.ireturn, 1) := by decide +kernel
theorem dX2_lowOf_0 : decode cX2_lowOf 0 = .ok (.aload_n 0, 1) := by decide +kernel
theorem dX2_lowOf_1 : decode cX2_lowOf 1 = .ok (.getfield 15, 3) := by decide +kernel
theorem dX2_lowOf_4 : decode cX2_lowOf 4 = .ok (.iload_n 1, 1) := by decide +kernel
theorem dX2_lowOf_5 : decode cX2_lowOf 5 = .ok (.iconst 4, 1) := by decide +kernel
theorem dX2_lowOf_6 : decode cX2_lowOf 6 = .ok (.imul, 1) := by decide +kernel
theorem dX2_lowOf_7 : decode cX2_lowOf 7 = .ok (.iload_n 2, 1) := by decide +kernel
theorem dX2_lowOf_8 : decode cX2_lowOf 8 = .ok (.iadd, 1) := by decide +kernel
theorem dX2_lowOf_9 : decode cX2_lowOf 9 = .ok (.laload, 1) := by decide +kernel
theorem dX2_lowOf_10 : decode cX2_lowOf 10 = .ok (.lreturn, 1) := by decide +kernel
theorem dX2_highOf_0 : decode cX2_highOf 0 = .ok (.aload_n 0, 1) := by decide +kernel
theorem dX2_highOf_1 : decode cX2_highOf 1 = .ok (.getfield 19, 3) := by decide +kernel
theorem dX2_highOf_4 : decode cX2_highOf 4 = .ok (.iload_n 1, 1) := by decide +kernel
theorem dX2_highOf_5 : decode cX2_highOf 5 = .ok (.iconst 4, 1) := by decide +kernel
theorem dX2_highOf_6 : decode cX2_highOf 6 = .ok (.imul, 1) := by decide +kernel
theorem dX2_highOf_7 : decode cX2_highOf 7 = .ok (.iload_n 2, 1) := by decide +kernel
theorem dX2_highOf_8 : decode cX2_highOf 8 = .ok (.iadd, 1) := by decide +kernel
theorem dX2_highOf_9 : decode cX2_highOf 9 = .ok (.laload, 1) := by decide +kernel
theorem dX2_highOf_10 : decode cX2_highOf 10 = .ok (.lreturn, 1) := by decide +kernel
set_option maxRecDepth 20000 in
theorem ggX2_copyTo_X0_start : GoodIn wsX2_copyTo wsX0_start := goodIn_r _ [5, 6, 24, 25, 26] (by decide +kernel) (by decide +kernel)
set_option maxRecDepth 20000 in
theorem gX2_copyTo_X0_start : GoodIn wsX2_copyTo (wsV RX2 22 RX0 yX0_start wsX0_start) := goodIn_app (goodIn_of _ (by decide +kernel)) ggX2_copyTo_X0_start
set_option maxRecDepth 20000 in
theorem ggX2_copyTo_X2_lowOf : GoodIn wsX2_copyTo wsX2_lowOf := goodIn_r _ [11, 12, 27, 28, 29] (by decide +kernel) (by decide +kernel)
set_option maxRecDepth 20000 in
theorem gX2_copyTo_X2_lowOf : GoodIn wsX2_copyTo (wsV RX2 27 RX2 yX2_lowOf wsX2_lowOf) := goodIn_app (goodIn_of _ (by decide +kernel)) ggX2_copyTo_X2_lowOf
set_option maxRecDepth 20000 in
theorem ggX2_copyTo_X2_highOf : GoodIn wsX2_copyTo wsX2_highOf := goodIn_r _ [16, 17, 27, 28, 29] (by decide +kernel) (by decide +kernel)
set_option maxRecDepth 20000 in
theorem gX2_copyTo_X2_highOf : GoodIn wsX2_copyTo (wsV RX2 31 RX2 yX2_highOf wsX2_highOf) := goodIn_app (goodIn_of _ (by decide +kernel)) ggX2_copyTo_X2_highOf
set_option maxRecDepth 20000 in
theorem ggX2_copyTo_X0_put : GoodIn wsX2_copyTo wsX0_put := goodIn_r _ [21, 22, 23, 24, 25, 26] (by decide +kernel) (by decide +kernel)
set_option maxRecDepth 20000 in
theorem gX2_copyTo_X0_put : GoodIn wsX2_copyTo (wsV RX2 34 RX0 yX0_put wsX0_put) := goodIn_app (goodIn_of _ (by decide +kernel)) ggX2_copyTo_X0_put
theorem dX2_copyTo_0 : decode cX2_copyTo 0 = .ok (.aload_n 1, 1) := by decide +kernel
theorem dX2_copyTo_1 : decode cX2_copyTo 1 = .ok (.invokevirtual 22, 3) := by decide +kernel
theorem dX2_copyTo_4 : decode cX2_copyTo 4 = .ok (.iconst 0, 1) := by decide +kernel
theorem dX2_copyTo_5 : decode cX2_copyTo 5 = .ok (.istore_n 3, 1) := by decide +kernel
theorem dX2_copyTo_6 : decode cX2_copyTo 6 = .ok (.iload_n 3, 1) := by decide +kernel
theorem dX2_copyTo_7 : decode cX2_copyTo 7 = .ok (.iconst 4, 1) := by decide +kernel
theorem dX2_copyTo_8 : decode cX2_copyTo 8 = .ok (.if_icmp .ge 26, 3) := by decide +kernel
theorem dX2_copyTo_11 : decode cX2_copyTo 11 = .ok (.aload_n 1, 1) := by decide +kernel
theorem dX2_copyTo_12 : decode cX2_copyTo 12 = .ok (.iload_n 3, 1) := by decide +kernel
theorem dX2_copyTo_13 : decode cX2_copyTo 13 = .ok (.aload_n 0, 1) := by decide +kernel
theorem dX2_copyTo_14 : decode cX2_copyTo 14 = .ok (.iload_n 2, 1) := by decide +kernel
theorem dX2_copyTo_15 : decode cX2_copyTo 15 = .ok (.iload_n 3, 1) := by decide +kernel
theorem dX2_copyTo_16 : decode cX2_copyTo 16 = .ok (.invokevirtual 27, 3) := by decide +kernel
theorem dX2_copyTo_19 : decode cX2_copyTo 19 = .ok (.aload_n 0, 1) := by decide +kernel
theorem dX2_copyTo_20 : decode cX2_copyTo 20 = .ok (.iload_n 2, 1) := by decide +kernel
theorem dX2_copyTo_21 : decode cX2_copyTo 21 = .ok (.iload_n 3, 1) := by decide +kernel
theorem dX2_copyTo_22 : decode cX2_copyTo 22 = .ok (.invokevirtual 31, 3) := by decide +kernel
theorem dX2_copyTo_25 : decode cX2_copyTo 25 = .ok (.invokevirtual 34, 3) := by decide +kernel
theorem dX2_copyTo_28 : decode cX2_copyTo 28 = .ok (.iinc 3 1, 3) := by decide +kernel
theorem dX2_copyTo_31 : decode cX2_copyTo 31 = .ok (.goto (-25), 3) := by decide +kernel
theorem dX2_copyTo_34 : decode cX2_copyTo 34 = .ok (.return_, 1) := by decide +kernel
set_option maxRecDepth 20000 in
theorem ggX2_take_X0_isSomething : GoodIn wsX2_take wsX0_isSomething := goodIn_r _ [6, 7, 34, 35, 36] (by decide +kernel) (by decide +kernel)
set_option maxRecDepth 20000 in
theorem gX2_take_X0_isSomething : GoodIn wsX2_take (wsV RX2 38 RX0 yX0_isSomething wsX0_isSomething) := goodIn_app (goodIn_of _ (by decide +kernel)) ggX2_take_X0_isSomething
set_option maxRecDepth 20000 in
theorem ggX2_take_X2_become : GoodIn wsX2_take wsX2_become := goodIn_r _ [12, 1, 13, 14, 15, 16, 17, 5, 18, 19, 20, 21, 22, 23, 24, 31, 32, 33, 34, 35, 36] (by decide +kernel) (by decide +kernel)
set_option maxRecDepth 20000 in
theorem gX2_take_X2_become : GoodIn wsX2_take (wsV RX2 42 RX2 yX2_become wsX2_become) := goodIn_app (goodIn_of _ (by decide +kernel)) ggX2_take_X2_become
set_option maxRecDepth 20000 in
theorem ggX2_take_X2_stretch : GoodIn wsX2_take wsX2_stretch := goodIn_r _ [28, 13, 29, 14, 30, 15, 16, 17, 5, 18, 19, 20, 21, 22, 23, 24, 31, 32, 33, 34, 35, 36] (by decide +kernel) (by decide +kernel)
set_option maxRecDepth 20000 in
theorem gX2_take_X2_stretch : GoodIn wsX2_take (wsV RX2 46 RX2 yX2_stretch wsX2_stretch) := goodIn_app (goodIn_of _ (by decide +kernel)) ggX2_take_X2_stretch
theorem dX2_take_0 : decode cX2_take 0 = .ok (.aload_n 2, 1) := by decide +kernel
theorem dX2_take_1 : decode cX2_take 1 = .ok (.invokevirtual 38, 3) := by decide +kernel
theorem dX2_take_4 : decode cX2_take 4 = .ok (.ifCond .eq 13, 3) := by decide +kernel
theorem dX2_take_7 : decode cX2_take 7 = .ok (.iload_n 1, 1) := by decide +kernel
theorem dX2_take_8 : decode cX2_take 8 = .ok (.ifCond .lt 9, 3) := by decide +kernel
theorem dX2_take_11 : decode cX2_take 11 = .ok (.iload_n 1, 1) := by decide +kernel
theorem dX2_take_12 : decode cX2_take 12 = .ok (.bipush 24, 2) := by decide +kernel
theorem dX2_take_14 : decode cX2_take 14 = .ok (.if_icmp .lt 5, 3) := by decide +kernel
theorem dX2_take_17 : decode cX2_take 17 = .ok (.iconst 0, 1) := by decide +kernel
theorem dX2_take_18 : decode cX2_take 18 = .ok (.ireturn, 1) := by decide +kernel
theorem dX2_take_19 : decode cX2_take 19 = .ok (.aload_n 0, 1) := by decide +kernel
theorem dX2_take_20 : decode cX2_take 20 = .ok (.getfield 9, 3) := by decide +kernel
theorem dX2_take_23 : decode cX2_take 23 = .ok (.iload_n 1, 1) := by decide +kernel
theorem dX2_take_24 : decode cX2_take 24 = .ok (.baload, 1) := by decide +kernel
theorem dX2_take_25 : decode cX2_take 25 = .ok (.ifCond .ne 11, 3) := by decide +kernel
theorem dX2_take_28 : decode cX2_take 28 = .ok (.aload_n 0, 1) := by decide +kernel
theorem dX2_take_29 : decode cX2_take 29 = .ok (.iload_n 1, 1) := by decide +kernel
theorem dX2_take_30 : decode cX2_take 30 = .ok (.aload_n 2, 1) := by decide +kernel
theorem dX2_take_31 : decode cX2_take 31 = .ok (.invokevirtual 42, 3) := by decide +kernel
theorem dX2_take_34 : decode cX2_take 34 = .ok (.iconst 1, 1) := by decide +kernel
theorem dX2_take_35 : decode cX2_take 35 = .ok (.ireturn, 1) := by decide +kernel
theorem dX2_take_36 : decode cX2_take 36 = .ok (.iconst 0, 1) := by decide +kernel
theorem dX2_take_37 : decode cX2_take 37 = .ok (.istore 4, 2) := by decide +kernel
theorem dX2_take_39 : decode cX2_take 39 = .ok (.iconst 0, 1) := by decide +kernel
theorem dX2_take_40 : decode cX2_take 40 = .ok (.istore 5, 2) := by decide +kernel
theorem dX2_take_42 : decode cX2_take 42 = .ok (.iload 5, 2) := by decide +kernel
theorem dX2_take_44 : decode cX2_take 44 = .ok (.iconst 4, 1) := by decide +kernel
theorem dX2_take_45 : decode cX2_take 45 = .ok (.if_icmp .ge 24, 3) := by decide +kernel
theorem dX2_take_48 : decode cX2_take 48 = .ok (.aload_n 0, 1) := by decide +kernel
theorem dX2_take_49 : decode cX2_take 49 = .ok (.iload_n 1, 1) := by decide +kernel
theorem dX2_take_50 : decode cX2_take 50 = .ok (.iload 5, 2) := by decide +kernel
theorem dX2_take_52 : decode cX2_take 52 = .ok (.aload_n 2, 1) := by decide +kernel
theorem dX2_take_53 : decode cX2_take 53 = .ok (.iload_n 3, 1) := by decide +kernel
theorem dX2_take_54 : decode cX2_take 54 = .ok (.invokevirtual 46, 3) := by decide +kernel
theorem dX2_take_57 : decode cX2_take 57 = .ok (.ifCond .eq 6, 3) := by decide +kernel
theorem dX2_take_60 : decode cX2_take 60 = .ok (.iconst 1, 1) := by decide +kernel
theorem dX2_take_61 : decode cX2_take 61 = .ok (.istore 4, 2) := by decide +kernel
theorem dX2_take_63 : decode cX2_take 63 = .ok (.iinc 5 1, 3) := by decide +kernel
theorem dX2_take_66 : decode cX2_take 66 = .ok (.goto (-24), 3) := by decide +kernel
theorem dX2_take_69 : decode cX2_take 69 = .ok (.iload 4, 2) := by decide +kernel
theorem dX2_take_71 : decode cX2_take 71 = .ok (.ireturn, 1) := by decide +kernel
set_option maxRecDepth 20000 in
theorem ggX2_become_X0_lowOf : GoodIn wsX2_become wsX0_lowOf := goodIn_r _ [8, 9, 18, 19, 20] (by decide +kernel) (by decide +kernel)
set_option maxRecDepth 20000 in
theorem gX2_become_X0_lowOf : GoodIn wsX2_become (wsV RX2 50 RX0 yX0_lowOf wsX0_lowOf) := goodIn_app (goodIn_of _ (by decide +kernel)) ggX2_become_X0_lowOf
set_option maxRecDepth 20000 in
theorem ggX2_become_X0_highOf : GoodIn wsX2_become wsX0_highOf := goodIn_r _ [13, 14, 18, 19, 20] (by decide +kernel) (by decide +kernel)
set_option maxRecDepth 20000 in
theorem gX2_become_X0_highOf : GoodIn wsX2_become (wsV RX2 53 RX0 yX0_highOf wsX0_highOf) := goodIn_app (goodIn_of _ (by decide +kernel)) ggX2_become_X0_highOf
theorem dX2_become_0 : decode cX2_become 0 = .ok (.aload_n 0, 1) := by decide +kernel
theorem dX2_become_1 : decode cX2_become 1 = .ok (.getfield 9, 3) := by decide +kernel
theorem dX2_become_4 : decode cX2_become 4 = .ok (.iload_n 1, 1) := by decide +kernel
theorem dX2_become_5 : decode cX2_become 5 = .ok (.iconst 1, 1) := by decide +kernel
theorem dX2_become_6 : decode cX2_become 6 = .ok (.bastore, 1) := by decide +kernel
theorem dX2_become_7 : decode cX2_become 7 = .ok (.iconst 0, 1) := by decide +kernel
theorem dX2_become_8 : decode cX2_become 8 = .ok (.istore_n 3, 1) := by decide +kernel
theorem dX2_become_9 : decode cX2_become 9 = .ok (.iload_n 3, 1) := by decide +kernel
theorem dX2_become_10 : decode cX2_become 10 = .ok (.iconst 4, 1) := by decide +kernel
theorem dX2_become_11 : decode cX2_become 11 = .ok (.if_icmp .ge 39, 3) := by decide +kernel
theorem dX2_become_14 : decode cX2_become 14 = .ok (.aload_n 0, 1) := by decide +kernel
theorem dX2_become_15 : decode cX2_become 15 = .ok (.getfield 15, 3) := by decide +kernel
theorem dX2_become_18 : decode cX2_become 18 = .ok (.iload_n 1, 1) := by decide +kernel
theorem dX2_become_19 : decode cX2_become 19 = .ok (.iconst 4, 1) := by decide +kernel
theorem dX2_become_20 : decode cX2_become 20 = .ok (.imul, 1) := by decide +kernel
theorem dX2_become_21 : decode cX2_become 21 = .ok (.iload_n 3, 1) := by decide +kernel
theorem dX2_become_22 : decode cX2_become 22 = .ok (.iadd, 1) := by decide +kernel
theorem dX2_become_23 : decode cX2_become 23 = .ok (.aload_n 2, 1) := by decide +kernel
theorem dX2_become_24 : decode cX2_become 24 = .ok (.iload_n 3, 1) := by decide +kernel
theorem dX2_become_25 : decode cX2_become 25 = .ok (.invokevirtual 50, 3) := by decide +kernel
theorem dX2_become_28 : decode cX2_become 28 = .ok (.lastore, 1) := by decide +kernel
theorem dX2_become_29 : decode cX2_become 29 = .ok (.aload_n 0, 1) := by decide +kernel
theorem dX2_become_30 : decode cX2_become 30 = .ok (.getfield 19, 3) := by decide +kernel
theorem dX2_become_33 : decode cX2_become 33 = .ok (.iload_n 1, 1) := by decide +kernel
theorem dX2_become_34 : decode cX2_become 34 = .ok (.iconst 4, 1) := by decide +kernel
theorem dX2_become_35 : decode cX2_become 35 = .ok (.imul, 1) := by decide +kernel
theorem dX2_become_36 : decode cX2_become 36 = .ok (.iload_n 3, 1) := by decide +kernel
theorem dX2_become_37 : decode cX2_become 37 = .ok (.iadd, 1) := by decide +kernel
theorem dX2_become_38 : decode cX2_become 38 = .ok (.aload_n 2, 1) := by decide +kernel
theorem dX2_become_39 : decode cX2_become 39 = .ok (.iload_n 3, 1) := by decide +kernel
theorem dX2_become_40 : decode cX2_become 40 = .ok (.invokevirtual 53, 3) := by decide +kernel
theorem dX2_become_43 : decode cX2_become 43 = .ok (.lastore, 1) := by decide +kernel
theorem dX2_become_44 : decode cX2_become 44 = .ok (.iinc 3 1, 3) := by decide +kernel
theorem dX2_become_47 : decode cX2_become 47 = .ok (.goto (-38), 3) := by decide +kernel
theorem dX2_become_50 : decode cX2_become 50 = .ok (.return_, 1) := by decide +kernel
set_option maxRecDepth 20000 in
theorem ggX2_stretch_X0_lowOf : GoodIn wsX2_stretch wsX0_lowOf := goodIn_r _ [9, 10, 19, 20, 21] (by decide +kernel) (by decide +kernel)
set_option maxRecDepth 20000 in
theorem gX2_stretch_X0_lowOf : GoodIn wsX2_stretch (wsV RX2 50 RX0 yX0_lowOf wsX0_lowOf) := goodIn_app (goodIn_of _ (by decide +kernel)) ggX2_stretch_X0_lowOf
set_option maxRecDepth 20000 in
theorem ggX2_stretch_X0_highOf : GoodIn wsX2_stretch wsX0_highOf := goodIn_r _ [14, 15, 19, 20, 21] (by decide +kernel) (by decide +kernel)
set_option maxRecDepth 20000 in
theorem gX2_stretch_X0_highOf : GoodIn wsX2_stretch (wsV RX2 53 RX0 yX0_highOf wsX0_highOf) := goodIn_app (goodIn_of _ (by decide +kernel)) ggX2_stretch_X0_highOf
theorem dX2_stretch_0 : decode cX2_stretch 0 = .ok (.iload_n 1, 1) := by decide +kernel
theorem dX2_stretch_1 : decode cX2_stretch 1 = .ok (.iconst 4, 1) := by decide +kernel
theorem dX2_stretch_2 : decode cX2_stretch 2 = .ok (.imul, 1) := by decide +kernel
theorem dX2_stretch_3 : decode cX2_stretch 3 = .ok (.iload_n 2, 1) := by decide +kernel
theorem dX2_stretch_4 : decode cX2_stretch 4 = .ok (.iadd, 1) := by decide +kernel
theorem dX2_stretch_5 : decode cX2_stretch 5 = .ok (.istore 5, 2) := by decide +kernel
theorem dX2_stretch_7 : decode cX2_stretch 7 = .ok (.iconst 0, 1) := by decide +kernel
theorem dX2_stretch_8 : decode cX2_stretch 8 = .ok (.istore 6, 2) := by decide +kernel
theorem dX2_stretch_10 : decode cX2_stretch 10 = .ok (.aload_n 3, 1) := by decide +kernel
theorem dX2_stretch_11 : decode cX2_stretch 11 = .ok (.iload_n 2, 1) := by decide +kernel
theorem dX2_stretch_12 : decode cX2_stretch 12 = .ok (.invokevirtual 50, 3) := by decide +kernel
theorem dX2_stretch_15 : decode cX2_stretch 15 = .ok (.aload_n 0, 1) := by decide +kernel
theorem dX2_stretch_16 : decode cX2_stretch 16 = .ok (.getfield 15, 3) := by decide +kernel
theorem dX2_stretch_19 : decode cX2_stretch 19 = .ok (.iload 5, 2) := by decide +kernel
theorem dX2_stretch_21 : decode cX2_stretch 21 = .ok (.laload, 1) := by decide +kernel
theorem dX2_stretch_22 : decode cX2_stretch 22 = .ok (.lcmp, 1) := by decide +kernel
theorem dX2_stretch_23 : decode cX2_stretch 23 = .ok (.ifCond .ge 29, 3) := by decide +kernel
theorem dX2_stretch_26 : decode cX2_stretch 26 = .ok (.aload_n 0, 1) := by decide +kernel
theorem dX2_stretch_27 : decode cX2_stretch 27 = .ok (.getfield 15, 3) := by decide +kernel
theorem dX2_stretch_30 : decode cX2_stretch 30 = .ok (.iload 5, 2) := by decide +kernel
theorem dX2_stretch_32 : decode cX2_stretch 32 = .ok (.iload 4, 2) := by decide +kernel
theorem dX2_stretch_34 : decode cX2_stretch 34 = .ok (.ifCond .eq 9, 3) := by decide +kernel
theorem dX2_stretch_37 : decode cX2_stretch 37 = .ok (.ldc2_w 55, 3) := by decide +kernel
theorem dX2_stretch_40 : decode cX2_stretch 40 = .ok (.goto 8, 3) := by decide +kernel
theorem dX2_stretch_43 : decode cX2_stretch 43 = .ok (.aload_n 3, 1) := by decide +kernel
theorem dX2_stretch_44 : decode cX2_stretch 44 = .ok (.iload_n 2, 1) := by decide +kernel
theorem dX2_stretch_45 : decode cX2_stretch 45 = .ok (.invokevirtual 50, 3) := by decide +kernel
theorem dX2_stretch_48 : decode cX2_stretch 48 = .ok (.lastore, 1) := by decide +kernel
theorem dX2_stretch_49 : decode cX2_stretch 49 = .ok (.iconst 1, 1) := by decide +kernel
theorem dX2_stretch_50 : decode cX2_stretch 50 = .ok (.istore 6, 2) := by decide +kernel
theorem dX2_stretch_52 : decode cX2_stretch 52 = .ok (.aload_n 3, 1) := by decide +kernel
theorem dX2_stretch_53 : decode cX2_stretch 53 = .ok (.iload_n 2, 1) := by decide +kernel
theorem dX2_stretch_54 : decode cX2_stretch 54 = .ok (.invokevirtual 53, 3) := by decide +kernel
theorem dX2_stretch_57 : decode cX2_stretch 57 = .ok (.aload_n 0, 1) := by decide +kernel
theorem dX2_stretch_58 : decode cX2_stretch 58 = .ok (.getfield 19, 3) := by decide +kernel
theorem dX2_stretch_61 : decode cX2_stretch 61 = .ok (.iload 5, 2) := by decide +kernel
theorem dX2_stretch_63 : decode cX2_stretch 63 = .ok (.laload, 1) := by decide +kernel
theorem dX2_stretch_64 : decode cX2_stretch 64 = .ok (.lcmp, 1) := by decide +kernel
theorem dX2_stretch_65 : decode cX2_stretch 65 = .ok (.ifCond .le 29, 3) := by decide +kernel
theorem dX2_stretch_68 : decode cX2_stretch 68 = .ok (.aload_n 0, 1) := by decide +kernel
theorem dX2_stretch_69 : decode cX2_stretch 69 = .ok (.getfield 19, 3) := by decide +kernel
theorem dX2_stretch_72 : decode cX2_stretch 72 = .ok (.iload 5, 2) := by decide +kernel
theorem dX2_stretch_74 : decode cX2_stretch 74 = .ok (.iload 4, 2) := by decide +kernel
theorem dX2_stretch_76 : decode cX2_stretch 76 = .ok (.ifCond .eq 9, 3) := by decide +kernel
theorem dX2_stretch_79 : decode cX2_stretch 79 = .ok (.ldc2_w 57, 3) := by decide +kernel
theorem dX2_stretch_82 : decode cX2_stretch 82 = .ok (.goto 8, 3) := by decide +kernel
theorem dX2_stretch_85 : decode cX2_stretch 85 = .ok (.aload_n 3, 1) := by decide +kernel
theorem dX2_stretch_86 : decode cX2_stretch 86 = .ok (.iload_n 2, 1) := by decide +kernel
theorem dX2_stretch_87 : decode cX2_stretch 87 = .ok (.invokevirtual 53, 3) := by decide +kernel
theorem dX2_stretch_90 : decode cX2_stretch 90 = .ok (.lastore, 1) := by decide +kernel
theorem dX2_stretch_91 : decode cX2_stretch 91 = .ok (.iconst 1, 1) := by decide +kernel
theorem dX2_stretch_92 : decode cX2_stretch 92 = .ok (.istore 6, 2) := by decide +kernel
theorem dX2_stretch_94 : decode cX2_stretch 94 = .ok (.iload 6, 2) := by decide +kernel
theorem dX2_stretch_96 : decode cX2_stretch 96 = .ok (.ireturn, 1) := by decide +kernel
theorem dJ9_max_f86c9_0 : decode cJ9_max_f86c9 0 = .ok (.lload_n 0, 1) := by decide +kernel
theorem dJ9_max_f86c9_1 : decode cJ9_max_f86c9 1 = .ok (.lload_n 2, 1) := by decide +kernel
theorem dJ9_max_f86c9_2 : decode cJ9_max_f86c9 2 = .ok (.lcmp, 1) := by decide +kernel
theorem dJ9_max_f86c9_3 : decode cJ9_max_f86c9 3 = .ok (.ifCond .lt 7, 3) := by decide +kernel
theorem dJ9_max_f86c9_6 : decode cJ9_max_f86c9 6 = .ok (.lload_n 0, 1) := by decide +kernel
theorem dJ9_max_f86c9_7 : decode cJ9_max_f86c9 7 = .ok (.goto 4, 3) := by decide +kernel
theorem dJ9_max_f86c9_10 : decode cJ9_max_f86c9 10 = .ok (.lload_n 2, 1) := by decide +kernel
theorem dJ9_max_f86c9_11 : decode cJ9_max_f86c9 11 = .ok (.lreturn, 1) := by decide +kernel
theorem dJ9_min_f86c9_0 : decode cJ9_min_f86c9 0 = .ok (.lload_n 0, 1) := by decide +kernel
theorem dJ9_min_f86c9_1 : decode cJ9_min_f86c9 1 = .ok (.lload_n 2, 1) := by decide +kernel
theorem dJ9_min_f86c9_2 : decode cJ9_min_f86c9 2 = .ok (.lcmp, 1) := by decide +kernel
theorem dJ9_min_f86c9_3 : decode cJ9_min_f86c9 3 = .ok (.ifCond .gt 7, 3) := by decide +kernel
theorem dJ9_min_f86c9_6 : decode cJ9_min_f86c9 6 = .ok (.lload_n 0, 1) := by decide +kernel
theorem dJ9_min_f86c9_7 : decode cJ9_min_f86c9 7 = .ok (.goto 4, 3) := by decide +kernel
theorem dJ9_min_f86c9_10 : decode cJ9_min_f86c9 10 = .ok (.lload_n 2, 1) := by decide +kernel
theorem dJ9_min_f86c9_11 : decode cJ9_min_f86c9 11 = .ok (.lreturn, 1) := by decide +kernel
