theorem dX3_takeEnds_65 : decode cX3_takeEnds 65 = .ok (.invokestatic 181, 3) := by decide +kernel
theorem dX3_takeEnds_68 : decode cX3_takeEnds 68 = .ok (.invokevirtual 185, 3) := by decide +kernel
theorem dX3_takeEnds_71 : decode cX3_takeEnds 71 = .ok (.aload_n 0, 1) := by decide +kernel
theorem dX3_takeEnds_72 : decode cX3_takeEnds 72 = .ok (.getfield 44, 3) := by decide +kernel
theorem dX3_takeEnds_75 : decode cX3_takeEnds 75 = .ok (.iload_n 1, 1) := by decide +kernel
theorem dX3_takeEnds_76 : decode cX3_takeEnds 76 = .ok (.lload 9, 2) := by decide +kernel
theorem dX3_takeEnds_78 : decode cX3_takeEnds 78 = .ok (.lload 5, 2) := by decide +kernel
theorem dX3_takeEnds_80 : decode cX3_takeEnds 80 = .ok (.invokestatic 181, 3) := by decide +kernel
theorem dX3_takeEnds_83 : decode cX3_takeEnds 83 = .ok (.invokevirtual 185, 3) := by decide +kernel
theorem dX3_takeEnds_86 : decode cX3_takeEnds 86 = .ok (.return_, 1) := by decide +kernel
theorem dX3_exactResult_0 : decode cX3_exactResult 0 = .ok (.iload_n 0, 1) := by decide +kernel
theorem dX3_exactResult_1 : decode cX3_exactResult 1 = .ok (.tableswitch 39 3 5 #[27, 31, 35], 27) := by decide +kernel
theorem dX3_exactResult_28 : decode cX3_exactResult 28 = .ok (.lload_n 1, 1) := by decide +kernel
theorem dX3_exactResult_29 : decode cX3_exactResult 29 = .ok (.lload_n 3, 1) := by decide +kernel
theorem dX3_exactResult_30 : decode cX3_exactResult 30 = .ok (.ladd, 1) := by decide +kernel
theorem dX3_exactResult_31 : decode cX3_exactResult 31 = .ok (.lreturn, 1) := by decide +kernel
theorem dX3_exactResult_32 : decode cX3_exactResult 32 = .ok (.lload_n 1, 1) := by decide +kernel
theorem dX3_exactResult_33 : decode cX3_exactResult 33 = .ok (.lload_n 3, 1) := by decide +kernel
theorem dX3_exactResult_34 : decode cX3_exactResult 34 = .ok (.lsub, 1) := by decide +kernel
theorem dX3_exactResult_35 : decode cX3_exactResult 35 = .ok (.lreturn, 1) := by decide +kernel
theorem dX3_exactResult_36 : decode cX3_exactResult 36 = .ok (.lload_n 1, 1) := by decide +kernel
theorem dX3_exactResult_37 : decode cX3_exactResult 37 = .ok (.lload_n 3, 1) := by decide +kernel
theorem dX3_exactResult_38 : decode cX3_exactResult 38 = .ok (.lmul, 1) := by decide +kernel
theorem dX3_exactResult_39 : decode cX3_exactResult 39 = .ok (.lreturn, 1) := by decide +kernel
theorem dX3_exactResult_40 : decode cX3_exactResult 40 = .ok (.lload_n 3, 1) := by decide +kernel
theorem dX3_exactResult_41 : decode cX3_exactResult 41 = .ok (.lconst 0, 1) := by decide +kernel
theorem dX3_exactResult_42 : decode cX3_exactResult 42 = .ok (.lcmp, 1) := by decide +kernel
theorem dX3_exactResult_43 : decode cX3_exactResult 43 = .ok (.ifCond .ne 7, 3) := by decide +kernel
theorem dX3_exactResult_46 : decode cX3_exactResult 46 = .ok (.lconst 0, 1) := by decide +kernel
theorem dX3_exactResult_47 : decode cX3_exactResult 47 = .ok (.goto 6, 3) := by decide +kernel
theorem dX3_exactResult_50 : decode cX3_exactResult 50 = .ok (.lload_n 1, 1) := by decide +kernel
theorem dX3_exactResult_51 : decode cX3_exactResult 51 = .ok (.lload_n 3, 1) := by decide +kernel
theorem dX3_exactResult_52 : decode cX3_exactResult 52 = .ok (.ldiv, 1) := by decide +kernel
theorem dX3_exactResult_53 : decode cX3_exactResult 53 = .ok (.lreturn, 1) := by decide +kernel
set_option maxRecDepth 20000 in
theorem ggX3_putResults_X1_isEmpty : GoodIn wsX3_putResults wsX1_isEmpty := goodIn_r _ [9, 10, 47, 48, 49] (by decide +kernel) (by decide +kernel)
set_option maxRecDepth 20000 in
theorem gX3_putResults_X1_isEmpty : GoodIn wsX3_putResults (wsV RX3 188 RX1 yX1_isEmpty wsX1_isEmpty) := goodIn_app (goodIn_of _ (by decide +kernel)) ggX3_putResults_X1_isEmpty
set_option maxRecDepth 20000 in
theorem ggX3_putResults_X0_stop : GoodIn wsX3_putResults wsX0_stop := goodIn_r _ [15, 16, 50, 51, 52] (by decide +kernel) (by decide +kernel)
set_option maxRecDepth 20000 in
theorem gX3_putResults_X0_stop : GoodIn wsX3_putResults (wsV RX3 157 RX0 yX0_stop wsX0_stop) := goodIn_app (goodIn_of _ (by decide +kernel)) ggX3_putResults_X0_stop
set_option maxRecDepth 20000 in
theorem ggX3_putResults_X1_wrapTogether : GoodIn wsX3_putResults wsX1_wrapTogether := goodIn_r _ [20, 21, 22, 23, 24, 25, 8, 26, 27, 28, 29, 30, 47, 48, 49] (by decide +kernel) (by decide +kernel)
set_option maxRecDepth 20000 in
theorem gX3_putResults_X1_wrapTogether : GoodIn wsX3_putResults (wsV RX3 191 RX1 yX1_wrapTogether wsX1_wrapTogether) := goodIn_app (goodIn_of _ (by decide +kernel)) ggX3_putResults_X1_wrapTogether
set_option maxRecDepth 20000 in
theorem ggX3_putResults_X1_wrappedLeast : GoodIn wsX3_putResults wsX1_wrappedLeast := goodIn_r _ [26, 21, 47, 48, 49] (by decide +kernel) (by decide +kernel)
set_option maxRecDepth 20000 in
theorem gX3_putResults_X1_wrappedLeast : GoodIn wsX3_putResults (wsV RX3 194 RX1 yX1_wrappedLeast wsX1_wrappedLeast) := goodIn_app (goodIn_of _ (by decide +kernel)) ggX3_putResults_X1_wrappedLeast
set_option maxRecDepth 20000 in
theorem ggX3_putResults_X1_wrappedGreatest : GoodIn wsX3_putResults wsX1_wrappedGreatest := goodIn_r _ [30, 22, 47, 48, 49] (by decide +kernel) (by decide +kernel)
set_option maxRecDepth 20000 in
theorem gX3_putResults_X1_wrappedGreatest : GoodIn wsX3_putResults (wsV RX3 198 RX1 yX1_wrappedGreatest wsX1_wrappedGreatest) := goodIn_app (goodIn_of _ (by decide +kernel)) ggX3_putResults_X1_wrappedGreatest
set_option maxRecDepth 20000 in
theorem ggX3_putResults_X0_put : GoodIn wsX3_putResults wsX0_put := goodIn_r _ [36, 37, 38, 50, 51, 52] (by decide +kernel) (by decide +kernel)
set_option maxRecDepth 20000 in
theorem gX3_putResults_X0_put : GoodIn wsX3_putResults (wsV RX3 130 RX0 yX0_put wsX0_put) := goodIn_app (goodIn_of _ (by decide +kernel)) ggX3_putResults_X0_put
theorem dX3_putResults_0 : decode cX3_putResults 0 = .ok (.aload_n 0, 1) := by decide +kernel
theorem dX3_putResults_1 : decode cX3_putResults 1 = .ok (.getfield 44, 3) := by decide +kernel
theorem dX3_putResults_4 : decode cX3_putResults 4 = .ok (.invokevirtual 188, 3) := by decide +kernel
theorem dX3_putResults_7 : decode cX3_putResults 7 = .ok (.ifCond .eq 13, 3) := by decide +kernel
theorem dX3_putResults_10 : decode cX3_putResults 10 = .ok (.aload_n 0, 1) := by decide +kernel
theorem dX3_putResults_11 : decode cX3_putResults 11 = .ok (.getfield 37, 3) := by decide +kernel
theorem dX3_putResults_14 : decode cX3_putResults 14 = .ok (.invokevirtual 157, 3) := by decide +kernel
theorem dX3_putResults_17 : decode cX3_putResults 17 = .ok (.goto 52, 3) := by decide +kernel
theorem dX3_putResults_20 : decode cX3_putResults 20 = .ok (.aload_n 0, 1) := by decide +kernel
theorem dX3_putResults_21 : decode cX3_putResults 21 = .ok (.getfield 44, 3) := by decide +kernel
theorem dX3_putResults_24 : decode cX3_putResults 24 = .ok (.invokevirtual 191, 3) := by decide +kernel
theorem dX3_putResults_27 : decode cX3_putResults 27 = .ok (.ifCond .eq 28, 3) := by decide +kernel
theorem dX3_putResults_30 : decode cX3_putResults 30 = .ok (.aload_n 0, 1) := by decide +kernel
theorem dX3_putResults_31 : decode cX3_putResults 31 = .ok (.getfield 37, 3) := by decide +kernel
theorem dX3_putResults_34 : decode cX3_putResults 34 = .ok (.iload_n 1, 1) := by decide +kernel
theorem dX3_putResults_35 : decode cX3_putResults 35 = .ok (.aload_n 0, 1) := by decide +kernel
theorem dX3_putResults_36 : decode cX3_putResults 36 = .ok (.getfield 44, 3) := by decide +kernel
theorem dX3_putResults_39 : decode cX3_putResults 39 = .ok (.invokevirtual 194, 3) := by decide +kernel
theorem dX3_putResults_42 : decode cX3_putResults 42 = .ok (.aload_n 0, 1) := by decide +kernel
theorem dX3_putResults_43 : decode cX3_putResults 43 = .ok (.getfield 44, 3) := by decide +kernel
theorem dX3_putResults_46 : decode cX3_putResults 46 = .ok (.invokevirtual 198, 3) := by decide +kernel
theorem dX3_putResults_49 : decode cX3_putResults 49 = .ok (.invokevirtual 130, 3) := by decide +kernel
theorem dX3_putResults_52 : decode cX3_putResults 52 = .ok (.goto 17, 3) := by decide +kernel
theorem dX3_putResults_55 : decode cX3_putResults 55 = .ok (.aload_n 0, 1) := by decide +kernel
theorem dX3_putResults_56 : decode cX3_putResults 56 = .ok (.getfield 37, 3) := by decide +kernel
theorem dX3_putResults_59 : decode cX3_putResults 59 = .ok (.iload_n 1, 1) := by decide +kernel
theorem dX3_putResults_60 : decode cX3_putResults 60 = .ok (.ldc2_w 149, 3) := by decide +kernel
theorem dX3_putResults_63 : decode cX3_putResults 63 = .ok (.ldc2_w 151, 3) := by decide +kernel
theorem dX3_putResults_66 : decode cX3_putResults 66 = .ok (.invokevirtual 130, 3) := by decide +kernel
theorem dX3_putResults_69 : decode cX3_putResults 69 = .ok (.return_, 1) := by decide +kernel
set_option maxRecDepth 20000 in
theorem ggX3_stopOutsideArray_X0_highOf : GoodIn wsX3_stopOutsideArray wsX0_highOf := goodIn_r _ [7, 8, 27, 28, 29] (by decide +kernel) (by decide +kernel)
set_option maxRecDepth 20000 in
theorem gX3_stopOutsideArray_X0_highOf : GoodIn wsX3_stopOutsideArray (wsV RX3 137 RX0 yX0_highOf wsX0_highOf) := goodIn_app (goodIn_of _ (by decide +kernel)) ggX3_stopOutsideArray_X0_highOf
set_option maxRecDepth 20000 in
theorem ggX3_stopOutsideArray_X0_lowOf : GoodIn wsX3_stopOutsideArray wsX0_lowOf := goodIn_r _ [12, 13, 27, 28, 29] (by decide +kernel) (by decide +kernel)
set_option maxRecDepth 20000 in
theorem gX3_stopOutsideArray_X0_lowOf : GoodIn wsX3_stopOutsideArray (wsV RX3 134 RX0 yX0_lowOf wsX0_lowOf) := goodIn_app (goodIn_of _ (by decide +kernel)) ggX3_stopOutsideArray_X0_lowOf
set_option maxRecDepth 20000 in
theorem ggX3_stopOutsideArray_X0_stop : GoodIn wsX3_stopOutsideArray wsX0_stop := goodIn_r _ [17, 18, 27, 28, 29] (by decide +kernel) (by decide +kernel)
set_option maxRecDepth 20000 in
theorem gX3_stopOutsideArray_X0_stop : GoodIn wsX3_stopOutsideArray (wsV RX3 157 RX0 yX0_stop wsX0_stop) := goodIn_app (goodIn_of _ (by decide +kernel)) ggX3_stopOutsideArray_X0_stop
theorem dX3_stopOutsideArray_0 : decode cX3_stopOutsideArray 0 = .ok (.aload_n 0, 1) := by decide +kernel
theorem dX3_stopOutsideArray_1 : decode cX3_stopOutsideArray 1 = .ok (.getfield 37, 3) := by decide +kernel
theorem dX3_stopOutsideArray_4 : decode cX3_stopOutsideArray 4 = .ok (.iload_n 1, 1) := by decide +kernel
theorem dX3_stopOutsideArray_5 : decode cX3_stopOutsideArray 5 = .ok (.invokevirtual 137, 3) := by decide +kernel
theorem dX3_stopOutsideArray_8 : decode cX3_stopOutsideArray 8 = .ok (.lconst 0, 1) := by decide +kernel
theorem dX3_stopOutsideArray_9 : decode cX3_stopOutsideArray 9 = .ok (.lcmp, 1) := by decide +kernel
theorem dX3_stopOutsideArray_10 : decode cX3_stopOutsideArray 10 = .ok (.ifCond .lt 18, 3) := by decide +kernel
theorem dX3_stopOutsideArray_13 : decode cX3_stopOutsideArray 13 = .ok (.aload_n 0, 1) := by decide +kernel
theorem dX3_stopOutsideArray_14 : decode cX3_stopOutsideArray 14 = .ok (.getfield 37, 3) := by decide +kernel
theorem dX3_stopOutsideArray_17 : decode cX3_stopOutsideArray 17 = .ok (.iload_n 1, 1) := by decide +kernel
theorem dX3_stopOutsideArray_18 : decode cX3_stopOutsideArray 18 = .ok (.invokevirtual 134, 3) := by decide +kernel
theorem dX3_stopOutsideArray_21 : decode cX3_stopOutsideArray 21 = .ok (.ldc2_w 201, 3) := by decide +kernel
theorem dX3_stopOutsideArray_24 : decode cX3_stopOutsideArray 24 = .ok (.lcmp, 1) := by decide +kernel
theorem dX3_stopOutsideArray_25 : decode cX3_stopOutsideArray 25 = .ok (.ifCond .le 10, 3) := by decide +kernel
theorem dX3_stopOutsideArray_28 : decode cX3_stopOutsideArray 28 = .ok (.aload_n 0, 1) := by decide +kernel
theorem dX3_stopOutsideArray_29 : decode cX3_stopOutsideArray 29 = .ok (.getfield 37, 3) := by decide +kernel
theorem dX3_stopOutsideArray_32 : decode cX3_stopOutsideArray 32 = .ok (.invokevirtual 157, 3) := by decide +kernel
theorem dX3_stopOutsideArray_35 : decode cX3_stopOutsideArray 35 = .ok (.return_, 1) := by decide +kernel
set_option maxRecDepth 20000 in
theorem ggX3_keepNotLess_X0_lowOf : GoodIn wsX3_keepNotLess wsX0_lowOf := goodIn_r _ [6, 7, 41, 42, 43] (by decide +kernel) (by decide +kernel)
set_option maxRecDepth 20000 in
theorem gX3_keepNotLess_X0_lowOf : GoodIn wsX3_keepNotLess (wsV RX3 134 RX0 yX0_lowOf wsX0_lowOf) := goodIn_app (goodIn_of _ (by decide +kernel)) ggX3_keepNotLess_X0_lowOf
set_option maxRecDepth 20000 in
theorem ggX3_keepNotLess_X0_raiseLow : GoodIn wsX3_keepNotLess wsX0_raiseLow := goodIn_r _ [11, 7, 12, 13, 14, 15, 16, 17, 18, 5, 19, 20, 21, 41, 42, 43] (by decide +kernel) (by decide +kernel)
set_option maxRecDepth 20000 in
theorem gX3_keepNotLess_X0_raiseLow : GoodIn wsX3_keepNotLess (wsV RX3 203 RX0 yX0_raiseLow wsX0_raiseLow) := goodIn_app (goodIn_of _ (by decide +kernel)) ggX3_keepNotLess_X0_raiseLow
set_option maxRecDepth 20000 in
theorem ggX3_keepNotLess_X0_highOf : GoodIn wsX3_keepNotLess wsX0_highOf := goodIn_r _ [25, 20, 41, 42, 43] (by decide +kernel) (by decide +kernel)
set_option maxRecDepth 20000 in
theorem gX3_keepNotLess_X0_highOf : GoodIn wsX3_keepNotLess (wsV RX3 137 RX0 yX0_highOf wsX0_highOf) := goodIn_app (goodIn_of _ (by decide +kernel)) ggX3_keepNotLess_X0_highOf
set_option maxRecDepth 20000 in
theorem ggX3_keepNotLess_X0_lowerHigh : GoodIn wsX3_keepNotLess wsX0_lowerHigh := goodIn_r _ [29, 20, 30, 31, 14, 32, 16, 17, 18, 5, 19, 7, 21, 41, 42, 43] (by decide +kernel) (by decide +kernel)
set_option maxRecDepth 20000 in
theorem gX3_keepNotLess_X0_lowerHigh : GoodIn wsX3_keepNotLess (wsV RX3 207 RX0 yX0_lowerHigh wsX0_lowerHigh) := goodIn_app (goodIn_of _ (by decide +kernel)) ggX3_keepNotLess_X0_lowerHigh
theorem dX3_keepNotLess_0 : decode cX3_keepNotLess 0 = .ok (.iload_n 1, 1) := by decide +kernel
theorem dX3_keepNotLess_1 : decode cX3_keepNotLess 1 = .ok (.iload_n 2, 1) := by decide +kernel
theorem dX3_keepNotLess_2 : decode cX3_keepNotLess 2 = .ok (.if_icmp .eq 35, 3) := by decide +kernel
theorem dX3_keepNotLess_5 : decode cX3_keepNotLess 5 = .ok (.aload_n 0, 1) := by decide +kernel
theorem dX3_keepNotLess_6 : decode cX3_keepNotLess 6 = .ok (.getfield 37, 3) := by decide +kernel
theorem dX3_keepNotLess_9 : decode cX3_keepNotLess 9 = .ok (.iload_n 1, 1) := by decide +kernel
theorem dX3_keepNotLess_10 : decode cX3_keepNotLess 10 = .ok (.aload_n 0, 1) := by decide +kernel
theorem dX3_keepNotLess_11 : decode cX3_keepNotLess 11 = .ok (.getfield 37, 3) := by decide +kernel
theorem dX3_keepNotLess_14 : decode cX3_keepNotLess 14 = .ok (.iload_n 2, 1) := by decide +kernel
theorem dX3_keepNotLess_15 : decode cX3_keepNotLess 15 = .ok (.invokevirtual 134, 3) := by decide +kernel
theorem dX3_keepNotLess_18 : decode cX3_keepNotLess 18 = .ok (.invokevirtual 203, 3) := by decide +kernel
theorem dX3_keepNotLess_21 : decode cX3_keepNotLess 21 = .ok (.aload_n 0, 1) := by decide +kernel
theorem dX3_keepNotLess_22 : decode cX3_keepNotLess 22 = .ok (.getfield 37, 3) := by decide +kernel
theorem dX3_keepNotLess_25 : decode cX3_keepNotLess 25 = .ok (.iload_n 2, 1) := by decide +kernel
theorem dX3_keepNotLess_26 : decode cX3_keepNotLess 26 = .ok (.aload_n 0, 1) := by decide +kernel
theorem dX3_keepNotLess_27 : decode cX3_keepNotLess 27 = .ok (.getfield 37, 3) := by decide +kernel
theorem dX3_keepNotLess_30 : decode cX3_keepNotLess 30 = .ok (.iload_n 1, 1) := by decide +kernel
theorem dX3_keepNotLess_31 : decode cX3_keepNotLess 31 = .ok (.invokevirtual 137, 3) := by decide +kernel
theorem dX3_keepNotLess_34 : decode cX3_keepNotLess 34 = .ok (.invokevirtual 207, 3) := by decide +kernel
theorem dX3_keepNotLess_37 : decode cX3_keepNotLess 37 = .ok (.return_, 1) := by decide +kernel
set_option maxRecDepth 20000 in
theorem ggX3_keepLess_X0_stop : GoodIn wsX3_keepLess wsX0_stop := goodIn_r _ [6, 7, 45, 46, 47] (by decide +kernel) (by decide +kernel)
set_option maxRecDepth 20000 in
theorem gX3_keepLess_X0_stop : GoodIn wsX3_keepLess (wsV RX3 157 RX0 yX0_stop wsX0_stop) := goodIn_app (goodIn_of _ (by decide +kernel)) ggX3_keepLess_X0_stop
set_option maxRecDepth 20000 in
theorem ggX3_keepLess_X0_highOf : GoodIn wsX3_keepLess wsX0_highOf := goodIn_r _ [11, 12, 45, 46, 47] (by decide +kernel) (by decide +kernel)
set_option maxRecDepth 20000 in
theorem gX3_keepLess_X0_highOf : GoodIn wsX3_keepLess (wsV RX3 137 RX0 yX0_highOf wsX0_highOf) := goodIn_app (goodIn_of _ (by decide +kernel)) ggX3_keepLess_X0_highOf
set_option maxRecDepth 20000 in
theorem ggX3_keepLess_X0_lowerHigh : GoodIn wsX3_keepLess wsX0_lowerHigh := goodIn_r _ [16, 12, 17, 18, 19, 20, 21, 22, 23, 5, 24, 25, 7, 45, 46, 47] (by decide +kernel) (by decide +kernel)
set_option maxRecDepth 20000 in
theorem gX3_keepLess_X0_lowerHigh : GoodIn wsX3_keepLess (wsV RX3 207 RX0 yX0_lowerHigh wsX0_lowerHigh) := goodIn_app (goodIn_of _ (by decide +kernel)) ggX3_keepLess_X0_lowerHigh
set_option maxRecDepth 20000 in
theorem ggX3_keepLess_X0_lowOf : GoodIn wsX3_keepLess wsX0_lowOf := goodIn_r _ [29, 25, 45, 46, 47] (by decide +kernel) (by decide +kernel)
set_option maxRecDepth 20000 in
theorem gX3_keepLess_X0_lowOf : GoodIn wsX3_keepLess (wsV RX3 134 RX0 yX0_lowOf wsX0_lowOf) := goodIn_app (goodIn_of _ (by decide +kernel)) ggX3_keepLess_X0_lowOf
set_option maxRecDepth 20000 in
theorem ggX3_keepLess_X0_raiseLow : GoodIn wsX3_keepLess wsX0_raiseLow := goodIn_r _ [33, 25, 34, 35, 19, 36, 21, 22, 23, 5, 24, 12, 7, 45, 46, 47] (by decide +kernel) (by decide +kernel)
set_option maxRecDepth 20000 in
theorem gX3_keepLess_X0_raiseLow : GoodIn wsX3_keepLess (wsV RX3 203 RX0 yX0_raiseLow wsX0_raiseLow) := goodIn_app (goodIn_of _ (by decide +kernel)) ggX3_keepLess_X0_raiseLow
theorem dX3_keepLess_0 : decode cX3_keepLess 0 = .ok (.iload_n 1, 1) := by decide +kernel
theorem dX3_keepLess_1 : decode cX3_keepLess 1 = .ok (.iload_n 2, 1) := by decide +kernel
theorem dX3_keepLess_2 : decode cX3_keepLess 2 = .ok (.if_icmp .ne 13, 3) := by decide +kernel
theorem dX3_keepLess_5 : decode cX3_keepLess 5 = .ok (.aload_n 0, 1) := by decide +kernel
theorem dX3_keepLess_6 : decode cX3_keepLess 6 = .ok (.getfield 37, 3) := by decide +kernel
theorem dX3_keepLess_9 : decode cX3_keepLess 9 = .ok (.invokevirtual 157, 3) := by decide +kernel
theorem dX3_keepLess_12 : decode cX3_keepLess 12 = .ok (.goto 39, 3) := by decide +kernel
theorem dX3_keepLess_15 : decode cX3_keepLess 15 = .ok (.aload_n 0, 1) := by decide +kernel
theorem dX3_keepLess_16 : decode cX3_keepLess 16 = .ok (.getfield 37, 3) := by decide +kernel
theorem dX3_keepLess_19 : decode cX3_keepLess 19 = .ok (.iload_n 1, 1) := by decide +kernel
theorem dX3_keepLess_20 : decode cX3_keepLess 20 = .ok (.aload_n 0, 1) := by decide +kernel
theorem dX3_keepLess_21 : decode cX3_keepLess 21 = .ok (.getfield 37, 3) := by decide +kernel
theorem dX3_keepLess_24 : decode cX3_keepLess 24 = .ok (.iload_n 2, 1) := by decide +kernel
theorem dX3_keepLess_25 : decode cX3_keepLess 25 = .ok (.invokevirtual 137, 3) := by decide +kernel
theorem dX3_keepLess_28 : decode cX3_keepLess 28 = .ok (.lconst 1, 1) := by decide +kernel
theorem dX3_keepLess_29 : decode cX3_keepLess 29 = .ok (.lsub, 1) := by decide +kernel
theorem dX3_keepLess_30 : decode cX3_keepLess 30 = .ok (.invokevirtual 207, 3) := by decide +kernel
theorem dX3_keepLess_33 : decode cX3_keepLess 33 = .ok (.aload_n 0, 1) := by decide +kernel
theorem dX3_keepLess_34 : decode cX3_keepLess 34 = .ok (.getfield 37, 3) := by decide +kernel
theorem dX3_keepLess_37 : decode cX3_keepLess 37 = .ok (.iload_n 2, 1) := by decide +kernel
theorem dX3_keepLess_38 : decode cX3_keepLess 38 = .ok (.aload_n 0, 1) := by decide +kernel
theorem dX3_keepLess_39 : decode cX3_keepLess 39 = .ok (.getfield 37, 3) := by decide +kernel
theorem dX3_keepLess_42 : decode cX3_keepLess 42 = .ok (.iload_n 1, 1) := by decide +kernel
theorem dX3_keepLess_43 : decode cX3_keepLess 43 = .ok (.invokevirtual 134, 3) := by decide +kernel
theorem dX3_keepLess_46 : decode cX3_keepLess 46 = .ok (.lconst 1, 1) := by decide +kernel
theorem dX3_keepLess_47 : decode cX3_keepLess 47 = .ok (.ladd, 1) := by decide +kernel
theorem dX3_keepLess_48 : decode cX3_keepLess 48 = .ok (.invokevirtual 203, 3) := by decide +kernel
theorem dX3_keepLess_51 : decode cX3_keepLess 51 = .ok (.return_, 1) := by decide +kernel
set_option maxRecDepth 20000 in
theorem ggX3_countAlarms_X3_alarm : GoodIn wsX3_countAlarms wsX3_alarm := goodIn_r _ [6, 7, 8, 9, 10, 5, 11, 12, 13, 14, 15, 16, 17, 1, 18, 19, 20, 21, 22, 23, 24, 25, 26, 27, 28, 29, 30, 31, 32, 33, 34, 35, 36, 37, 38, 39, 40, 41, 42, 43, 44, 45, 46, 47, 48, 49, 50, 51, 52, 53] (by decide +kernel) (by decide +kernel)
set_option maxRecDepth 20000 in
theorem gX3_countAlarms_X3_alarm : GoodIn wsX3_countAlarms (wsV RX3 210 RX3 yX3_alarm wsX3_alarm) := goodIn_app (goodIn_of _ (by decide +kernel)) ggX3_countAlarms_X3_alarm
theorem dX3_countAlarms_0 : decode cX3_countAlarms 0 = .ok (.iconst 0, 1) := by decide +kernel
theorem dX3_countAlarms_1 : decode cX3_countAlarms 1 = .ok (.istore_n 1, 1) := by decide +kernel
theorem dX3_countAlarms_2 : decode cX3_countAlarms 2 = .ok (.iconst 0, 1) := by decide +kernel
theorem dX3_countAlarms_3 : decode cX3_countAlarms 3 = .ok (.istore_n 2, 1) := by decide +kernel
theorem dX3_countAlarms_4 : decode cX3_countAlarms 4 = .ok (.iload_n 2, 1) := by decide +kernel
theorem dX3_countAlarms_5 : decode cX3_countAlarms 5 = .ok (.aload_n 0, 1) := by decide +kernel
theorem dX3_countAlarms_6 : decode cX3_countAlarms 6 = .ok (.getfield 13, 3) := by decide +kernel
theorem dX3_countAlarms_9 : decode cX3_countAlarms 9 = .ok (.if_icmp .ge 20, 3) := by decide +kernel
theorem dX3_countAlarms_12 : decode cX3_countAlarms 12 = .ok (.aload_n 0, 1) := by decide +kernel
theorem dX3_countAlarms_13 : decode cX3_countAlarms 13 = .ok (.iload_n 2, 1) := by decide +kernel
theorem dX3_countAlarms_14 : decode cX3_countAlarms 14 = .ok (.invokevirtual 210, 3) := by decide +kernel
theorem dX3_countAlarms_17 : decode cX3_countAlarms 17 = .ok (.ifCond .eq 6, 3) := by decide +kernel
theorem dX3_countAlarms_20 : decode cX3_countAlarms 20 = .ok (.iinc 1 1, 3) := by decide +kernel
theorem dX3_countAlarms_23 : decode cX3_countAlarms 23 = .ok (.iinc 2 1, 3) := by decide +kernel
theorem dX3_countAlarms_26 : decode cX3_countAlarms 26 = .ok (.goto (-22), 3) := by decide +kernel
theorem dX3_countAlarms_29 : decode cX3_countAlarms 29 = .ok (.iload_n 1, 1) := by decide +kernel
theorem dX3_countAlarms_30 : decode cX3_countAlarms 30 = .ok (.ireturn, 1) := by decide +kernel
set_option maxRecDepth 20000 in
theorem ggX3_mayDivideByZero_X2_lowOf : GoodIn wsX3_mayDivideByZero wsX2_lowOf := goodIn_r _ [7, 8, 22, 23, 24] (by decide +kernel) (by decide +kernel)
set_option maxRecDepth 20000 in
theorem gX3_mayDivideByZero_X2_lowOf : GoodIn wsX3_mayDivideByZero (wsV RX3 92 RX2 yX2_lowOf wsX2_lowOf) := goodIn_app (goodIn_of _ (by decide +kernel)) ggX3_mayDivideByZero_X2_lowOf
set_option maxRecDepth 20000 in
theorem ggX3_mayDivideByZero_X2_highOf : GoodIn wsX3_mayDivideByZero wsX2_highOf := goodIn_r _ [12, 13, 22, 23, 24] (by decide +kernel) (by decide +kernel)
set_option maxRecDepth 20000 in
theorem gX3_mayDivideByZero_X2_highOf : GoodIn wsX3_mayDivideByZero (wsV RX3 96 RX2 yX2_highOf wsX2_highOf) := goodIn_app (goodIn_of _ (by decide +kernel)) ggX3_mayDivideByZero_X2_highOf
theorem dX3_mayDivideByZero_0 : decode cX3_mayDivideByZero 0 = .ok (.aload_n 0, 1) := by decide +kernel
theorem dX3_mayDivideByZero_1 : decode cX3_mayDivideByZero 1 = .ok (.getfield 9, 3) := by decide +kernel
theorem dX3_mayDivideByZero_4 : decode cX3_mayDivideByZero 4 = .ok (.iload_n 1, 1) := by decide +kernel
theorem dX3_mayDivideByZero_5 : decode cX3_mayDivideByZero 5 = .ok (.iconst 4, 1) := by decide +kernel
theorem dX3_mayDivideByZero_6 : decode cX3_mayDivideByZero 6 = .ok (.imul, 1) := by decide +kernel
theorem dX3_mayDivideByZero_7 : decode cX3_mayDivideByZero 7 = .ok (.iconst 3, 1) := by decide +kernel
theorem dX3_mayDivideByZero_8 : decode cX3_mayDivideByZero 8 = .ok (.iadd, 1) := by decide +kernel
theorem dX3_mayDivideByZero_9 : decode cX3_mayDivideByZero 9 = .ok (.iaload, 1) := by decide +kernel
theorem dX3_mayDivideByZero_10 : decode cX3_mayDivideByZero 10 = .ok (.istore_n 2, 1) := by decide +kernel
theorem dX3_mayDivideByZero_11 : decode cX3_mayDivideByZero 11 = .ok (.aload_n 0, 1) := by decide +kernel
theorem dX3_mayDivideByZero_12 : decode cX3_mayDivideByZero 12 = .ok (.getfield 31, 3) := by decide +kernel
theorem dX3_mayDivideByZero_15 : decode cX3_mayDivideByZero 15 = .ok (.iload_n 1, 1) := by decide +kernel
theorem dX3_mayDivideByZero_16 : decode cX3_mayDivideByZero 16 = .ok (.iload_n 2, 1) := by decide +kernel
theorem dX3_mayDivideByZero_17 : decode cX3_mayDivideByZero 17 = .ok (.invokevirtual 92, 3) := by decide +kernel
theorem dX3_mayDivideByZero_20 : decode cX3_mayDivideByZero 20 = .ok (.lconst 0, 1) := by decide +kernel
theorem dX3_mayDivideByZero_21 : decode cX3_mayDivideByZero 21 = .ok (.lcmp, 1) := by decide +kernel
theorem dX3_mayDivideByZero_22 : decode cX3_mayDivideByZero 22 = .ok (.ifCond .gt 21, 3) := by decide +kernel
theorem dX3_mayDivideByZero_25 : decode cX3_mayDivideByZero 25 = .ok (.aload_n 0, 1) := by decide +kernel
theorem dX3_mayDivideByZero_26 : decode cX3_mayDivideByZero 26 = .ok (.getfield 31, 3) := by decide +kernel
theorem dX3_mayDivideByZero_29 : decode cX3_mayDivideByZero 29 = .ok (.iload_n 1, 1) := by decide +kernel
theorem dX3_mayDivideByZero_30 : decode cX3_mayDivideByZero 30 = .ok (.iload_n 2, 1) := by decide +kernel
theorem dX3_mayDivideByZero_31 : decode cX3_mayDivideByZero 31 = .ok (.invokevirtual 96, 3) := by decide +kernel
theorem dX3_mayDivideByZero_34 : decode cX3_mayDivideByZero 34 = .ok (.lconst 0, 1) := by decide +kernel
theorem dX3_mayDivideByZero_35 : decode cX3_mayDivideByZero 35 = .ok (.lcmp, 1) := by decide +kernel
theorem dX3_mayDivideByZero_36 : decode cX3_mayDivideByZero 36 = .ok (.ifCond .lt 7, 3) := by decide +kernel
theorem dX3_mayDivideByZero_39 : decode cX3_mayDivideByZero 39 = .ok (.iconst 1, 1) := by decide +kernel
theorem dX3_mayDivideByZero_40 : decode cX3_mayDivideByZero 40 = .ok (.goto 4, 3) := by decide +kernel
theorem dX3_mayDivideByZero_43 : decode cX3_mayDivideByZero 43 = .ok (.iconst 0, 1) := by decide +kernel
theorem dX3_mayDivideByZero_44 : decode cX3_mayDivideByZero 44 = .ok (.ireturn, 1) := by decide +kernel
set_option maxRecDepth 20000 in
theorem ggX3_mayLeaveArray_X2_lowOf : GoodIn wsX3_mayLeaveArray wsX2_lowOf := goodIn_r _ [8, 9, 23, 24, 25] (by decide +kernel) (by decide +kernel)
set_option maxRecDepth 20000 in
theorem gX3_mayLeaveArray_X2_lowOf : GoodIn wsX3_mayLeaveArray (wsV RX3 92 RX2 yX2_lowOf wsX2_lowOf) := goodIn_app (goodIn_of _ (by decide +kernel)) ggX3_mayLeaveArray_X2_lowOf
set_option maxRecDepth 20000 in
theorem ggX3_mayLeaveArray_X2_highOf : GoodIn wsX3_mayLeaveArray wsX2_highOf := goodIn_r _ [13, 14, 23, 24, 25] (by decide +kernel) (by decide +kernel)
set_option maxRecDepth 20000 in
theorem gX3_mayLeaveArray_X2_highOf : GoodIn wsX3_mayLeaveArray (wsV RX3 96 RX2 yX2_highOf wsX2_highOf) := goodIn_app (goodIn_of _ (by decide +kernel)) ggX3_mayLeaveArray_X2_highOf
theorem dX3_mayLeaveArray_0 : decode cX3_mayLeaveArray 0 = .ok (.aload_n 0, 1) := by decide +kernel
theorem dX3_mayLeaveArray_1 : decode cX3_mayLeaveArray 1 = .ok (.getfield 9, 3) := by decide +kernel
theorem dX3_mayLeaveArray_4 : decode cX3_mayLeaveArray 4 = .ok (.iload_n 1, 1) := by decide +kernel
theorem dX3_mayLeaveArray_5 : decode cX3_mayLeaveArray 5 = .ok (.iconst 4, 1) := by decide +kernel
theorem dX3_mayLeaveArray_6 : decode cX3_mayLeaveArray 6 = .ok (.imul, 1) := by decide +kernel
theorem dX3_mayLeaveArray_7 : decode cX3_mayLeaveArray 7 = .ok (.iconst 2, 1) := by decide +kernel
theorem dX3_mayLeaveArray_8 : decode cX3_mayLeaveArray 8 = .ok (.iadd, 1) := by decide +kernel
theorem dX3_mayLeaveArray_9 : decode cX3_mayLeaveArray 9 = .ok (.iaload, 1) := by decide +kernel
theorem dX3_mayLeaveArray_10 : decode cX3_mayLeaveArray 10 = .ok (.istore_n 2, 1) := by decide +kernel
theorem dX3_mayLeaveArray_11 : decode cX3_mayLeaveArray 11 = .ok (.aload_n 0, 1) := by decide +kernel
theorem dX3_mayLeaveArray_12 : decode cX3_mayLeaveArray 12 = .ok (.getfield 31, 3) := by decide +kernel
theorem dX3_mayLeaveArray_15 : decode cX3_mayLeaveArray 15 = .ok (.iload_n 1, 1) := by decide +kernel
theorem dX3_mayLeaveArray_16 : decode cX3_mayLeaveArray 16 = .ok (.iload_n 2, 1) := by decide +kernel
theorem dX3_mayLeaveArray_17 : decode cX3_mayLeaveArray 17 = .ok (.invokevirtual 92, 3) := by decide +kernel
theorem dX3_mayLeaveArray_20 : decode cX3_mayLeaveArray 20 = .ok (.lconst 0, 1) := by decide +kernel
theorem dX3_mayLeaveArray_21 : decode cX3_mayLeaveArray 21 = .ok (.lcmp, 1) := by decide +kernel
theorem dX3_mayLeaveArray_22 : decode cX3_mayLeaveArray 22 = .ok (.ifCond .lt 19, 3) := by decide +kernel
theorem dX3_mayLeaveArray_25 : decode cX3_mayLeaveArray 25 = .ok (.aload_n 0, 1) := by decide +kernel
theorem dX3_mayLeaveArray_26 : decode cX3_mayLeaveArray 26 = .ok (.getfield 31, 3) := by decide +kernel
theorem dX3_mayLeaveArray_29 : decode cX3_mayLeaveArray 29 = .ok (.iload_n 1, 1) := by decide +kernel
theorem dX3_mayLeaveArray_30 : decode cX3_mayLeaveArray 30 = .ok (.iload_n 2, 1) := by decide +kernel
theorem dX3_mayLeaveArray_31 : decode cX3_mayLeaveArray 31 = .ok (.invokevirtual 96, 3) := by decide +kernel
theorem dX3_mayLeaveArray_34 : decode cX3_mayLeaveArray 34 = .ok (.ldc2_w 201, 3) := by decide +kernel
theorem dX3_mayLeaveArray_37 : decode cX3_mayLeaveArray 37 = .ok (.lcmp, 1) := by decide +kernel
theorem dX3_mayLeaveArray_38 : decode cX3_mayLeaveArray 38 = .ok (.ifCond .le 7, 3) := by decide +kernel
theorem dX3_mayLeaveArray_41 : decode cX3_mayLeaveArray 41 = .ok (.iconst 1, 1) := by decide +kernel
theorem dX3_mayLeaveArray_42 : decode cX3_mayLeaveArray 42 = .ok (.goto 4, 3) := by decide +kernel
theorem dX3_mayLeaveArray_45 : decode cX3_mayLeaveArray 45 = .ok (.iconst 0, 1) := by decide +kernel
theorem dX3_mayLeaveArray_46 : decode cX3_mayLeaveArray 46 = .ok (.ireturn, 1) := by decide +kernel
