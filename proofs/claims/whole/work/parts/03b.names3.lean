theorem dX3_isWhole_14 : decode cX3_isWhole 14 = .ok (.getfield 13, 3) := by decide +kernel
theorem dX3_isWhole_17 : decode cX3_isWhole 17 = .ok (.iconst 1, 1) := by decide +kernel
theorem dX3_isWhole_18 : decode cX3_isWhole 18 = .ok (.isub, 1) := by decide +kernel
theorem dX3_isWhole_19 : decode cX3_isWhole 19 = .ok (.iconst 4, 1) := by decide +kernel
theorem dX3_isWhole_20 : decode cX3_isWhole 20 = .ok (.imul, 1) := by decide +kernel
theorem dX3_isWhole_21 : decode cX3_isWhole 21 = .ok (.iconst 0, 1) := by decide +kernel
theorem dX3_isWhole_22 : decode cX3_isWhole 22 = .ok (.iadd, 1) := by decide +kernel
theorem dX3_isWhole_23 : decode cX3_isWhole 23 = .ok (.iaload, 1) := by decide +kernel
theorem dX3_isWhole_24 : decode cX3_isWhole 24 = .ok (.istore_n 1, 1) := by decide +kernel
theorem dX3_isWhole_25 : decode cX3_isWhole 25 = .ok (.iload_n 1, 1) := by decide +kernel
theorem dX3_isWhole_26 : decode cX3_isWhole 26 = .ok (.ifCond .eq 9, 3) := by decide +kernel
theorem dX3_isWhole_29 : decode cX3_isWhole 29 = .ok (.iload_n 1, 1) := by decide +kernel
theorem dX3_isWhole_30 : decode cX3_isWhole 30 = .ok (.bipush 10, 2) := by decide +kernel
theorem dX3_isWhole_32 : decode cX3_isWhole 32 = .ok (.if_icmp .ne 14, 3) := by decide +kernel
theorem dX3_isWhole_35 : decode cX3_isWhole 35 = .ok (.aload_n 0, 1) := by decide +kernel
theorem dX3_isWhole_36 : decode cX3_isWhole 36 = .ok (.invokevirtual 108, 3) := by decide +kernel
theorem dX3_isWhole_39 : decode cX3_isWhole 39 = .ok (.ifCond .eq 7, 3) := by decide +kernel
theorem dX3_isWhole_42 : decode cX3_isWhole 42 = .ok (.iconst 1, 1) := by decide +kernel
theorem dX3_isWhole_43 : decode cX3_isWhole 43 = .ok (.goto 4, 3) := by decide +kernel
theorem dX3_isWhole_46 : decode cX3_isWhole 46 = .ok (.iconst 0, 1) := by decide +kernel
theorem dX3_isWhole_47 : decode cX3_isWhole 47 = .ok (.ireturn, 1) := by decide +kernel
set_option maxRecDepth 20000 in
theorem ggX3_areAllPlacesInside_X3_goesOnAtC : GoodIn wsX3_areAllPlacesInside wsX3_goesOnAtC := goodIn_r _ [6] (by decide +kernel) (by decide +kernel)
set_option maxRecDepth 20000 in
theorem gX3_areAllPlacesInside_X3_goesOnAtC : GoodIn wsX3_areAllPlacesInside (va_wsS RX3 105 yX3_goesOnAtC wsX3_goesOnAtC) := goodIn_app (goodIn_of _ (by decide +kernel)) ggX3_areAllPlacesInside_X3_goesOnAtC
set_option maxRecDepth 20000 in
theorem ggX3_areAllPlacesInside_X3_isInstruction : GoodIn wsX3_areAllPlacesInside wsX3_isInstruction := goodIn_r _ [10, 1, 11, 12, 13, 14, 15, 16, 17, 18] (by decide +kernel) (by decide +kernel)
set_option maxRecDepth 20000 in
theorem gX3_areAllPlacesInside_X3_isInstruction : GoodIn wsX3_areAllPlacesInside (wsV RX3 59 RX3 yX3_isInstruction wsX3_isInstruction) := goodIn_app (goodIn_of _ (by decide +kernel)) ggX3_areAllPlacesInside_X3_isInstruction
theorem dX3_areAllPlacesInside_0 : decode cX3_areAllPlacesInside 0 = .ok (.iconst 0, 1) := by decide +kernel
theorem dX3_areAllPlacesInside_1 : decode cX3_areAllPlacesInside 1 = .ok (.istore_n 1, 1) := by decide +kernel
theorem dX3_areAllPlacesInside_2 : decode cX3_areAllPlacesInside 2 = .ok (.iload_n 1, 1) := by decide +kernel
theorem dX3_areAllPlacesInside_3 : decode cX3_areAllPlacesInside 3 = .ok (.aload_n 0, 1) := by decide +kernel
theorem dX3_areAllPlacesInside_4 : decode cX3_areAllPlacesInside 4 = .ok (.getfield 13, 3) := by decide +kernel
theorem dX3_areAllPlacesInside_7 : decode cX3_areAllPlacesInside 7 = .ok (.if_icmp .ge 44, 3) := by decide +kernel
theorem dX3_areAllPlacesInside_10 : decode cX3_areAllPlacesInside 10 = .ok (.iload_n 1, 1) := by decide +kernel
theorem dX3_areAllPlacesInside_11 : decode cX3_areAllPlacesInside 11 = .ok (.iconst 4, 1) := by decide +kernel
theorem dX3_areAllPlacesInside_12 : decode cX3_areAllPlacesInside 12 = .ok (.imul, 1) := by decide +kernel
theorem dX3_areAllPlacesInside_13 : decode cX3_areAllPlacesInside 13 = .ok (.istore_n 2, 1) := by decide +kernel
theorem dX3_areAllPlacesInside_14 : decode cX3_areAllPlacesInside 14 = .ok (.aload_n 0, 1) := by decide +kernel
theorem dX3_areAllPlacesInside_15 : decode cX3_areAllPlacesInside 15 = .ok (.getfield 9, 3) := by decide +kernel
theorem dX3_areAllPlacesInside_18 : decode cX3_areAllPlacesInside 18 = .ok (.iload_n 2, 1) := by decide +kernel
theorem dX3_areAllPlacesInside_19 : decode cX3_areAllPlacesInside 19 = .ok (.iconst 0, 1) := by decide +kernel
theorem dX3_areAllPlacesInside_20 : decode cX3_areAllPlacesInside 20 = .ok (.iadd, 1) := by decide +kernel
theorem dX3_areAllPlacesInside_21 : decode cX3_areAllPlacesInside 21 = .ok (.iaload, 1) := by decide +kernel
theorem dX3_areAllPlacesInside_22 : decode cX3_areAllPlacesInside 22 = .ok (.invokestatic 105, 3) := by decide +kernel
theorem dX3_areAllPlacesInside_25 : decode cX3_areAllPlacesInside 25 = .ok (.ifCond .eq 20, 3) := by decide +kernel
theorem dX3_areAllPlacesInside_28 : decode cX3_areAllPlacesInside 28 = .ok (.aload_n 0, 1) := by decide +kernel
theorem dX3_areAllPlacesInside_29 : decode cX3_areAllPlacesInside 29 = .ok (.aload_n 0, 1) := by decide +kernel
theorem dX3_areAllPlacesInside_30 : decode cX3_areAllPlacesInside 30 = .ok (.getfield 9, 3) := by decide +kernel
theorem dX3_areAllPlacesInside_33 : decode cX3_areAllPlacesInside 33 = .ok (.iload_n 2, 1) := by decide +kernel
theorem dX3_areAllPlacesInside_34 : decode cX3_areAllPlacesInside 34 = .ok (.iconst 3, 1) := by decide +kernel
theorem dX3_areAllPlacesInside_35 : decode cX3_areAllPlacesInside 35 = .ok (.iadd, 1) := by decide +kernel
theorem dX3_areAllPlacesInside_36 : decode cX3_areAllPlacesInside 36 = .ok (.iaload, 1) := by decide +kernel
theorem dX3_areAllPlacesInside_37 : decode cX3_areAllPlacesInside 37 = .ok (.invokevirtual 59, 3) := by decide +kernel
theorem dX3_areAllPlacesInside_40 : decode cX3_areAllPlacesInside 40 = .ok (.ifCond .ne 5, 3) := by decide +kernel
theorem dX3_areAllPlacesInside_43 : decode cX3_areAllPlacesInside 43 = .ok (.iconst 0, 1) := by decide +kernel
theorem dX3_areAllPlacesInside_44 : decode cX3_areAllPlacesInside 44 = .ok (.ireturn, 1) := by decide +kernel
theorem dX3_areAllPlacesInside_45 : decode cX3_areAllPlacesInside 45 = .ok (.iinc 1 1, 3) := by decide +kernel
theorem dX3_areAllPlacesInside_48 : decode cX3_areAllPlacesInside 48 = .ok (.goto (-46), 3) := by decide +kernel
theorem dX3_areAllPlacesInside_51 : decode cX3_areAllPlacesInside 51 = .ok (.iconst 1, 1) := by decide +kernel
theorem dX3_areAllPlacesInside_52 : decode cX3_areAllPlacesInside 52 = .ok (.ireturn, 1) := by decide +kernel
set_option maxRecDepth 20000 in
theorem ggX3_runRound_X2_isSomewhere : GoodIn wsX3_runRound wsX2_isSomewhere := goodIn_r _ [7, 8, 174, 175, 176] (by decide +kernel) (by decide +kernel)
set_option maxRecDepth 20000 in
theorem gX3_runRound_X2_isSomewhere : GoodIn wsX3_runRound (wsV RX3 80 RX2 yX2_isSomewhere wsX2_isSomewhere) := goodIn_app (goodIn_of _ (by decide +kernel)) ggX3_runRound_X2_isSomewhere
set_option maxRecDepth 20000 in
theorem ggX3_runRound_X3_sendFlows : GoodIn wsX3_runRound wsX3_sendFlows := goodIn_r _ [13, 14, 15, 16, 17, 18, 12, 19, 2, 20, 21, 22, 23, 24, 6, 25, 26, 27, 28, 29, 30, 31, 32, 33, 34, 35, 36, 37, 38, 39, 40, 41, 42, 43, 44, 45, 46, 47, 48, 49, 50, 51, 52, 53, 54, 55, 56, 57, 58, 59, 60, 61, 62, 63, 64, 65, 66, 67, 68, 69, 70, 71, 72, 73, 74, 75, 76, 77, 78, 79, 80, 81, 82, 83, 84, 85, 86, 87, 88, 89, 90, 91, 92, 93, 94, 95, 96, 97, 98, 99, 100, 101, 102, 103, 104, 105, 106, 107, 108, 109, 110, 111, 112, 113, 114, 115, 116, 117, 118, 119, 120, 121, 122, 123, 124, 125, 126, 127, 128, 129, 130, 131, 132, 133, 134, 135, 136, 137, 138, 139, 140, 141, 8, 142, 143, 144, 145, 146, 147, 148, 149, 150, 151, 152, 153, 154, 155, 156, 157, 158, 159, 160, 161, 162, 163, 164, 165, 166, 167, 168, 169, 170, 171, 172, 173, 177, 178, 179, 174, 175, 176, 180, 181, 182] (by decide +kernel) (by decide +kernel)
set_option maxRecDepth 20000 in
theorem gX3_runRound_X3_sendFlows : GoodIn wsX3_runRound (wsV RX3 111 RX3 yX3_sendFlows wsX3_sendFlows) := goodIn_app (goodIn_of _ (by decide +kernel)) ggX3_runRound_X3_sendFlows
theorem dX3_runRound_0 : decode cX3_runRound 0 = .ok (.iconst 0, 1) := by decide +kernel
theorem dX3_runRound_1 : decode cX3_runRound 1 = .ok (.istore_n 1, 1) := by decide +kernel
theorem dX3_runRound_2 : decode cX3_runRound 2 = .ok (.iconst 0, 1) := by decide +kernel
theorem dX3_runRound_3 : decode cX3_runRound 3 = .ok (.istore_n 2, 1) := by decide +kernel
theorem dX3_runRound_4 : decode cX3_runRound 4 = .ok (.iload_n 2, 1) := by decide +kernel
theorem dX3_runRound_5 : decode cX3_runRound 5 = .ok (.aload_n 0, 1) := by decide +kernel
theorem dX3_runRound_6 : decode cX3_runRound 6 = .ok (.getfield 13, 3) := by decide +kernel
theorem dX3_runRound_9 : decode cX3_runRound 9 = .ok (.if_icmp .ge 35, 3) := by decide +kernel
theorem dX3_runRound_12 : decode cX3_runRound 12 = .ok (.aload_n 0, 1) := by decide +kernel
theorem dX3_runRound_13 : decode cX3_runRound 13 = .ok (.getfield 27, 3) := by decide +kernel
theorem dX3_runRound_16 : decode cX3_runRound 16 = .ok (.iload_n 2, 1) := by decide +kernel
theorem dX3_runRound_17 : decode cX3_runRound 17 = .ok (.invokevirtual 80, 3) := by decide +kernel
theorem dX3_runRound_20 : decode cX3_runRound 20 = .ok (.ifCond .eq 18, 3) := by decide +kernel
theorem dX3_runRound_23 : decode cX3_runRound 23 = .ok (.aload_n 0, 1) := by decide +kernel
theorem dX3_runRound_24 : decode cX3_runRound 24 = .ok (.iload_n 2, 1) := by decide +kernel
theorem dX3_runRound_25 : decode cX3_runRound 25 = .ok (.aload_n 0, 1) := by decide +kernel
theorem dX3_runRound_26 : decode cX3_runRound 26 = .ok (.getfield 27, 3) := by decide +kernel
theorem dX3_runRound_29 : decode cX3_runRound 29 = .ok (.iconst 1, 1) := by decide +kernel
theorem dX3_runRound_30 : decode cX3_runRound 30 = .ok (.invokevirtual 111, 3) := by decide +kernel
theorem dX3_runRound_33 : decode cX3_runRound 33 = .ok (.ifCond .eq 5, 3) := by decide +kernel
theorem dX3_runRound_36 : decode cX3_runRound 36 = .ok (.iconst 1, 1) := by decide +kernel
theorem dX3_runRound_37 : decode cX3_runRound 37 = .ok (.istore_n 1, 1) := by decide +kernel
theorem dX3_runRound_38 : decode cX3_runRound 38 = .ok (.iinc 2 1, 3) := by decide +kernel
theorem dX3_runRound_41 : decode cX3_runRound 41 = .ok (.goto (-37), 3) := by decide +kernel
theorem dX3_runRound_44 : decode cX3_runRound 44 = .ok (.iload_n 1, 1) := by decide +kernel
theorem dX3_runRound_45 : decode cX3_runRound 45 = .ok (.ireturn, 1) := by decide +kernel
set_option maxRecDepth 20000 in
theorem ggX3_settle_X2_begin : GoodIn wsX3_settle wsX2_begin := goodIn_r _ [8, 9, 10, 11, 179, 180, 181] (by decide +kernel) (by decide +kernel)
set_option maxRecDepth 20000 in
theorem gX3_settle_X2_begin : GoodIn wsX3_settle (wsV RX3 67 RX2 yX2_begin wsX2_begin) := goodIn_app (goodIn_of _ (by decide +kernel)) ggX3_settle_X2_begin
set_option maxRecDepth 20000 in
theorem ggX3_settle_X2_isSomewhere : GoodIn wsX3_settle wsX2_isSomewhere := goodIn_r _ [15, 9, 179, 180, 181] (by decide +kernel) (by decide +kernel)
set_option maxRecDepth 20000 in
theorem gX3_settle_X2_isSomewhere : GoodIn wsX3_settle (wsV RX3 80 RX2 yX2_isSomewhere wsX2_isSomewhere) := goodIn_app (goodIn_of _ (by decide +kernel)) ggX3_settle_X2_isSomewhere
set_option maxRecDepth 20000 in
theorem ggX3_settle_X3_sendFlows : GoodIn wsX3_settle wsX3_sendFlows := goodIn_r _ [20, 21, 22, 23, 24, 25, 19, 26, 3, 27, 28, 29, 30, 31, 7, 32, 33, 34, 35, 36, 37, 38, 39, 40, 41, 42, 10, 43, 44, 45, 46, 11, 47, 48, 49, 50, 51, 52, 53, 54, 55, 56, 57, 58, 59, 60, 61, 62, 63, 64, 65, 66, 67, 68, 69, 70, 71, 72, 73, 74, 75, 76, 77, 78, 79, 80, 81, 82, 83, 84, 85, 86, 87, 88, 89, 90, 91, 92, 93, 94, 95, 96, 97, 98, 99, 100, 101, 102, 103, 104, 105, 106, 107, 108, 109, 110, 111, 112, 113, 114, 115, 116, 117, 118, 119, 120, 121, 122, 123, 124, 125, 126, 127, 128, 129, 130, 131, 132, 133, 134, 135, 136, 137, 138, 139, 140, 141, 142, 143, 144, 145, 146, 9, 147, 148, 149, 150, 151, 152, 153, 154, 155, 156, 157, 158, 159, 160, 161, 162, 163, 164, 165, 166, 167, 168, 169, 170, 171, 172, 173, 174, 175, 176, 177, 178, 182, 183, 184, 179, 180, 181, 185, 186, 187] (by decide +kernel) (by decide +kernel)
set_option maxRecDepth 20000 in
theorem gX3_settle_X3_sendFlows : GoodIn wsX3_settle (wsV RX3 111 RX3 yX3_sendFlows wsX3_sendFlows) := goodIn_app (goodIn_of _ (by decide +kernel)) ggX3_settle_X3_sendFlows
theorem dX3_settle_0 : decode cX3_settle 0 = .ok (.aload_n 0, 1) := by decide +kernel
theorem dX3_settle_1 : decode cX3_settle 1 = .ok (.getfield 31, 3) := by decide +kernel
theorem dX3_settle_4 : decode cX3_settle 4 = .ok (.invokevirtual 67, 3) := by decide +kernel
theorem dX3_settle_7 : decode cX3_settle 7 = .ok (.iconst 0, 1) := by decide +kernel
theorem dX3_settle_8 : decode cX3_settle 8 = .ok (.istore_n 1, 1) := by decide +kernel
theorem dX3_settle_9 : decode cX3_settle 9 = .ok (.iload_n 1, 1) := by decide +kernel
theorem dX3_settle_10 : decode cX3_settle 10 = .ok (.aload_n 0, 1) := by decide +kernel
theorem dX3_settle_11 : decode cX3_settle 11 = .ok (.getfield 13, 3) := by decide +kernel
theorem dX3_settle_14 : decode cX3_settle 14 = .ok (.if_icmp .ge 31, 3) := by decide +kernel
theorem dX3_settle_17 : decode cX3_settle 17 = .ok (.aload_n 0, 1) := by decide +kernel
theorem dX3_settle_18 : decode cX3_settle 18 = .ok (.getfield 27, 3) := by decide +kernel
theorem dX3_settle_21 : decode cX3_settle 21 = .ok (.iload_n 1, 1) := by decide +kernel
theorem dX3_settle_22 : decode cX3_settle 22 = .ok (.invokevirtual 80, 3) := by decide +kernel
theorem dX3_settle_25 : decode cX3_settle 25 = .ok (.ifCond .eq 14, 3) := by decide +kernel
theorem dX3_settle_28 : decode cX3_settle 28 = .ok (.aload_n 0, 1) := by decide +kernel
theorem dX3_settle_29 : decode cX3_settle 29 = .ok (.iload_n 1, 1) := by decide +kernel
theorem dX3_settle_30 : decode cX3_settle 30 = .ok (.aload_n 0, 1) := by decide +kernel
theorem dX3_settle_31 : decode cX3_settle 31 = .ok (.getfield 31, 3) := by decide +kernel
theorem dX3_settle_34 : decode cX3_settle 34 = .ok (.iconst 0, 1) := by decide +kernel
theorem dX3_settle_35 : decode cX3_settle 35 = .ok (.invokevirtual 111, 3) := by decide +kernel
theorem dX3_settle_38 : decode cX3_settle 38 = .ok (.pop, 1) := by decide +kernel
theorem dX3_settle_39 : decode cX3_settle 39 = .ok (.iinc 1 1, 3) := by decide +kernel
theorem dX3_settle_42 : decode cX3_settle 42 = .ok (.goto (-33), 3) := by decide +kernel
theorem dX3_settle_45 : decode cX3_settle 45 = .ok (.return_, 1) := by decide +kernel
set_option maxRecDepth 20000 in
theorem ggX3_sendFlows_X3_makeFlowToNext : GoodIn wsX3_sendFlows wsX3_makeFlowToNext := goodIn_r _ [7, 2, 8, 1, 9, 10, 11, 12, 13, 14, 15, 16, 17, 18, 19, 20, 21, 22, 23, 24, 25, 26, 27, 28, 29, 30, 31, 32, 33, 34, 35, 36, 37, 38, 39, 40, 41, 42, 43, 44, 45, 46, 47, 48, 49, 6, 50, 51, 52, 53, 54, 55, 56, 57, 58, 59, 60, 61, 62, 63, 64, 65, 66, 67, 68, 69, 70, 71, 72, 73, 74, 75, 76, 77, 78, 79, 80, 81, 82, 83, 84, 85, 86, 87, 88, 89, 90, 91, 92, 93, 94, 95, 96, 97, 98, 99, 100, 101, 102, 103, 104, 105, 106, 107, 108, 109, 110, 111, 112, 113, 114, 115, 116, 117, 118, 119, 120, 121, 122, 123, 124, 125, 126, 127, 157, 158, 159, 160, 161, 162, 163, 164, 165, 166, 167, 168, 169, 170, 171, 172, 173] (by decide +kernel) (by decide +kernel)
set_option maxRecDepth 20000 in
theorem gX3_sendFlows_X3_makeFlowToNext : GoodIn wsX3_sendFlows (wsV RX3 115 RX3 yX3_makeFlowToNext wsX3_makeFlowToNext) := goodIn_app (goodIn_of _ (by decide +kernel)) ggX3_sendFlows_X3_makeFlowToNext
set_option maxRecDepth 20000 in
theorem ggX3_sendFlows_X2_take : GoodIn wsX3_sendFlows wsX2_take := goodIn_r _ [131, 132, 133, 134, 135, 19, 136, 21, 137, 138, 139, 14, 140, 26, 31, 141, 40, 41, 42, 36, 142, 44, 45, 46, 37, 143, 144, 145, 146, 147, 148, 168, 169, 170, 165, 166, 167] (by decide +kernel) (by decide +kernel)
set_option maxRecDepth 20000 in
theorem gX3_sendFlows_X2_take : GoodIn wsX3_sendFlows (wsV RX3 119 RX2 yX2_take wsX2_take) := goodIn_app (goodIn_of _ (by decide +kernel)) ggX3_sendFlows_X2_take
set_option maxRecDepth 20000 in
theorem ggX3_sendFlows_X3_makeFlowToPlace : GoodIn wsX3_sendFlows wsX3_makeFlowToPlace := goodIn_r _ [152, 8, 1, 2, 11, 12, 13, 14, 15, 16, 17, 18, 19, 20, 21, 22, 23, 24, 25, 26, 27, 28, 29, 30, 31, 32, 33, 34, 35, 36, 37, 153, 154, 155, 6, 156, 87, 88, 89, 90, 43, 44, 45, 46, 123, 124, 125, 126, 127, 54, 55, 56, 119, 120, 121, 122, 39, 40, 41, 42, 114, 115, 116, 117, 118, 58, 59, 157, 158, 159, 160, 161, 162, 163, 164, 165, 166, 167, 168, 169, 170] (by decide +kernel) (by decide +kernel)
set_option maxRecDepth 20000 in
theorem gX3_sendFlows_X3_makeFlowToPlace : GoodIn wsX3_sendFlows (wsV RX3 123 RX3 yX3_makeFlowToPlace wsX3_makeFlowToPlace) := goodIn_app (goodIn_of _ (by decide +kernel)) ggX3_sendFlows_X3_makeFlowToPlace
theorem dX3_sendFlows_0 : decode cX3_sendFlows 0 = .ok (.aload_n 0, 1) := by decide +kernel
theorem dX3_sendFlows_1 : decode cX3_sendFlows 1 = .ok (.iload_n 1, 1) := by decide +kernel
theorem dX3_sendFlows_2 : decode cX3_sendFlows 2 = .ok (.invokevirtual 115, 3) := by decide +kernel
theorem dX3_sendFlows_5 : decode cX3_sendFlows 5 = .ok (.aload_n 2, 1) := by decide +kernel
theorem dX3_sendFlows_6 : decode cX3_sendFlows 6 = .ok (.iload_n 1, 1) := by decide +kernel
theorem dX3_sendFlows_7 : decode cX3_sendFlows 7 = .ok (.iconst 1, 1) := by decide +kernel
theorem dX3_sendFlows_8 : decode cX3_sendFlows 8 = .ok (.iadd, 1) := by decide +kernel
theorem dX3_sendFlows_9 : decode cX3_sendFlows 9 = .ok (.aload_n 0, 1) := by decide +kernel
theorem dX3_sendFlows_10 : decode cX3_sendFlows 10 = .ok (.getfield 37, 3) := by decide +kernel
theorem dX3_sendFlows_13 : decode cX3_sendFlows 13 = .ok (.iconst 0, 1) := by decide +kernel
theorem dX3_sendFlows_14 : decode cX3_sendFlows 14 = .ok (.invokevirtual 119, 3) := by decide +kernel
theorem dX3_sendFlows_17 : decode cX3_sendFlows 17 = .ok (.istore 4, 2) := by decide +kernel
theorem dX3_sendFlows_19 : decode cX3_sendFlows 19 = .ok (.aload_n 0, 1) := by decide +kernel
theorem dX3_sendFlows_20 : decode cX3_sendFlows 20 = .ok (.iload_n 1, 1) := by decide +kernel
theorem dX3_sendFlows_21 : decode cX3_sendFlows 21 = .ok (.invokevirtual 123, 3) := by decide +kernel
theorem dX3_sendFlows_24 : decode cX3_sendFlows 24 = .ok (.aload_n 0, 1) := by decide +kernel
theorem dX3_sendFlows_25 : decode cX3_sendFlows 25 = .ok (.getfield 9, 3) := by decide +kernel
theorem dX3_sendFlows_28 : decode cX3_sendFlows 28 = .ok (.iload_n 1, 1) := by decide +kernel
theorem dX3_sendFlows_29 : decode cX3_sendFlows 29 = .ok (.iconst 4, 1) := by decide +kernel
theorem dX3_sendFlows_30 : decode cX3_sendFlows 30 = .ok (.imul, 1) := by decide +kernel
theorem dX3_sendFlows_31 : decode cX3_sendFlows 31 = .ok (.iconst 3, 1) := by decide +kernel
theorem dX3_sendFlows_32 : decode cX3_sendFlows 32 = .ok (.iadd, 1) := by decide +kernel
theorem dX3_sendFlows_33 : decode cX3_sendFlows 33 = .ok (.iaload, 1) := by decide +kernel
theorem dX3_sendFlows_34 : decode cX3_sendFlows 34 = .ok (.istore 5, 2) := by decide +kernel
theorem dX3_sendFlows_36 : decode cX3_sendFlows 36 = .ok (.aload_n 2, 1) := by decide +kernel
theorem dX3_sendFlows_37 : decode cX3_sendFlows 37 = .ok (.iload 5, 2) := by decide +kernel
theorem dX3_sendFlows_39 : decode cX3_sendFlows 39 = .ok (.aload_n 0, 1) := by decide +kernel
theorem dX3_sendFlows_40 : decode cX3_sendFlows 40 = .ok (.getfield 37, 3) := by decide +kernel
theorem dX3_sendFlows_43 : decode cX3_sendFlows 43 = .ok (.iload_n 3, 1) := by decide +kernel
theorem dX3_sendFlows_44 : decode cX3_sendFlows 44 = .ok (.ifCond .eq 13, 3) := by decide +kernel
theorem dX3_sendFlows_47 : decode cX3_sendFlows 47 = .ok (.iload 5, 2) := by decide +kernel
theorem dX3_sendFlows_49 : decode cX3_sendFlows 49 = .ok (.iload_n 1, 1) := by decide +kernel
theorem dX3_sendFlows_50 : decode cX3_sendFlows 50 = .ok (.if_icmp .gt 7, 3) := by decide +kernel
theorem dX3_sendFlows_53 : decode cX3_sendFlows 53 = .ok (.iconst 1, 1) := by decide +kernel
theorem dX3_sendFlows_54 : decode cX3_sendFlows 54 = .ok (.goto 4, 3) := by decide +kernel
theorem dX3_sendFlows_57 : decode cX3_sendFlows 57 = .ok (.iconst 0, 1) := by decide +kernel
theorem dX3_sendFlows_58 : decode cX3_sendFlows 58 = .ok (.invokevirtual 119, 3) := by decide +kernel
theorem dX3_sendFlows_61 : decode cX3_sendFlows 61 = .ok (.istore 6, 2) := by decide +kernel
theorem dX3_sendFlows_63 : decode cX3_sendFlows 63 = .ok (.iload 4, 2) := by decide +kernel
theorem dX3_sendFlows_65 : decode cX3_sendFlows 65 = .ok (.ifCond .ne 8, 3) := by decide +kernel
theorem dX3_sendFlows_68 : decode cX3_sendFlows 68 = .ok (.iload 6, 2) := by decide +kernel
theorem dX3_sendFlows_70 : decode cX3_sendFlows 70 = .ok (.ifCond .eq 7, 3) := by decide +kernel
theorem dX3_sendFlows_73 : decode cX3_sendFlows 73 = .ok (.iconst 1, 1) := by decide +kernel
theorem dX3_sendFlows_74 : decode cX3_sendFlows 74 = .ok (.goto 4, 3) := by decide +kernel
theorem dX3_sendFlows_77 : decode cX3_sendFlows 77 = .ok (.iconst 0, 1) := by decide +kernel
theorem dX3_sendFlows_78 : decode cX3_sendFlows 78 = .ok (.ireturn, 1) := by decide +kernel
set_option maxRecDepth 20000 in
theorem ggX3_makeFlowToNext_X2_copyTo : GoodIn wsX3_makeFlowToNext wsX2_copyTo := goodIn_r _ [10, 11, 12, 13, 14, 15, 16, 17, 18, 19, 9, 20, 21, 22, 23, 24, 25, 26, 27, 28, 29, 30, 31, 32, 132, 133, 134, 135, 136, 137] (by decide +kernel) (by decide +kernel)
set_option maxRecDepth 20000 in
theorem gX3_makeFlowToNext_X2_copyTo : GoodIn wsX3_makeFlowToNext (wsV RX3 126 RX2 yX2_copyTo wsX2_copyTo) := goodIn_app (goodIn_of _ (by decide +kernel)) ggX3_makeFlowToNext_X2_copyTo
set_option maxRecDepth 20000 in
theorem ggX3_makeFlowToNext_X0_put : GoodIn wsX3_makeFlowToNext wsX0_put := goodIn_r _ [30, 31, 32, 132, 133, 134] (by decide +kernel) (by decide +kernel)
set_option maxRecDepth 20000 in
theorem gX3_makeFlowToNext_X0_put : GoodIn wsX3_makeFlowToNext (wsV RX3 130 RX0 yX0_put wsX0_put) := goodIn_app (goodIn_of _ (by decide +kernel)) ggX3_makeFlowToNext_X0_put
set_option maxRecDepth 20000 in
theorem ggX3_makeFlowToNext_X0_lowOf : GoodIn wsX3_makeFlowToNext wsX0_lowOf := goodIn_r _ [37, 31, 132, 133, 134] (by decide +kernel) (by decide +kernel)
set_option maxRecDepth 20000 in
theorem gX3_makeFlowToNext_X0_lowOf : GoodIn wsX3_makeFlowToNext (wsV RX3 134 RX0 yX0_lowOf wsX0_lowOf) := goodIn_app (goodIn_of _ (by decide +kernel)) ggX3_makeFlowToNext_X0_lowOf
set_option maxRecDepth 20000 in
theorem ggX3_makeFlowToNext_X0_highOf : GoodIn wsX3_makeFlowToNext wsX0_highOf := goodIn_r _ [41, 32, 132, 133, 134] (by decide +kernel) (by decide +kernel)
set_option maxRecDepth 20000 in
theorem gX3_makeFlowToNext_X0_highOf : GoodIn wsX3_makeFlowToNext (wsV RX3 137 RX0 yX0_highOf wsX0_highOf) := goodIn_app (goodIn_of _ (by decide +kernel)) ggX3_makeFlowToNext_X0_highOf
set_option maxRecDepth 20000 in
theorem ggX3_makeFlowToNext_X3_calculate : GoodIn wsX3_makeFlowToNext wsX3_calculate := goodIn_r _ [46, 3, 47, 48, 49, 50, 51, 52, 53, 54, 55, 34, 35, 36, 14, 37, 31, 38, 39, 40, 41, 32, 56, 57, 58, 59, 60, 61, 62, 63, 64, 45, 65, 66, 67, 68, 69, 70, 71, 72, 73, 74, 124, 125, 126, 127, 128, 129, 130, 131, 132, 133, 134, 138, 139, 140] (by decide +kernel) (by decide +kernel)
set_option maxRecDepth 20000 in
theorem gX3_makeFlowToNext_X3_calculate : GoodIn wsX3_makeFlowToNext (wsV RX3 139 RX3 yX3_calculate wsX3_calculate) := goodIn_app (goodIn_of _ (by decide +kernel)) ggX3_makeFlowToNext_X3_calculate
set_option maxRecDepth 20000 in
theorem ggX3_makeFlowToNext_X3_putResults : GoodIn wsX3_makeFlowToNext wsX3_putResults := goodIn_r _ [78, 47, 3, 4, 5, 79, 80, 81, 59, 82, 61, 83, 84, 85, 14, 86, 16, 87, 88, 89, 90, 73, 74, 91, 92, 93, 94, 95, 96, 97, 98, 99, 100, 33, 28, 29, 30, 31, 32, 124, 125, 126, 127, 128, 129, 130, 131, 138, 139, 140, 132, 133, 134] (by decide +kernel) (by decide +kernel)
set_option maxRecDepth 20000 in
theorem gX3_makeFlowToNext_X3_putResults : GoodIn wsX3_makeFlowToNext (wsV RX3 143 RX3 yX3_putResults wsX3_putResults) := goodIn_app (goodIn_of _ (by decide +kernel)) ggX3_makeFlowToNext_X3_putResults
set_option maxRecDepth 20000 in
theorem ggX3_makeFlowToNext_X3_stopOutsideArray : GoodIn wsX3_makeFlowToNext wsX3_stopOutsideArray := goodIn_r _ [104, 3, 105, 38, 39, 40, 14, 41, 32, 34, 35, 36, 37, 31, 83, 84, 85, 86, 16, 124, 125, 126, 127, 128, 129, 130, 131, 132, 133, 134] (by decide +kernel) (by decide +kernel)
set_option maxRecDepth 20000 in
theorem gX3_makeFlowToNext_X3_stopOutsideArray : GoodIn wsX3_makeFlowToNext (wsV RX3 146 RX3 yX3_stopOutsideArray wsX3_stopOutsideArray) := goodIn_app (goodIn_of _ (by decide +kernel)) ggX3_makeFlowToNext_X3_stopOutsideArray
set_option maxRecDepth 20000 in
theorem ggX3_makeFlowToNext_X3_keepNotLess : GoodIn wsX3_makeFlowToNext wsX3_keepNotLess := goodIn_r _ [109, 3, 34, 35, 36, 14, 37, 31, 110, 111, 112, 113, 114, 54, 51, 55, 115, 116, 117, 118, 32, 16, 38, 39, 40, 41, 119, 120, 121, 122, 123, 50, 52, 124, 125, 126, 127, 128, 129, 130, 131, 132, 133, 134] (by decide +kernel) (by decide +kernel)
set_option maxRecDepth 20000 in
theorem gX3_makeFlowToNext_X3_keepNotLess : GoodIn wsX3_makeFlowToNext (wsV RX3 153 RX3 yX3_keepNotLess wsX3_keepNotLess) := goodIn_app (goodIn_of _ (by decide +kernel)) ggX3_makeFlowToNext_X3_keepNotLess
set_option maxRecDepth 20000 in
theorem ggX3_makeFlowToNext_X0_stop : GoodIn wsX3_makeFlowToNext wsX0_stop := goodIn_r _ [86, 16, 132, 133, 134] (by decide +kernel) (by decide +kernel)
set_option maxRecDepth 20000 in
theorem gX3_makeFlowToNext_X0_stop : GoodIn wsX3_makeFlowToNext (wsV RX3 157 RX0 yX0_stop wsX0_stop) := goodIn_app (goodIn_of _ (by decide +kernel)) ggX3_makeFlowToNext_X0_stop
theorem dX3_makeFlowToNext_0 : decode cX3_makeFlowToNext 0 = .ok (.iload_n 1, 1) := by decide +kernel
theorem dX3_makeFlowToNext_1 : decode cX3_makeFlowToNext 1 = .ok (.iconst 4, 1) := by decide +kernel
theorem dX3_makeFlowToNext_2 : decode cX3_makeFlowToNext 2 = .ok (.imul, 1) := by decide +kernel
theorem dX3_makeFlowToNext_3 : decode cX3_makeFlowToNext 3 = .ok (.istore_n 2, 1) := by decide +kernel
theorem dX3_makeFlowToNext_4 : decode cX3_makeFlowToNext 4 = .ok (.aload_n 0, 1) := by decide +kernel
theorem dX3_makeFlowToNext_5 : decode cX3_makeFlowToNext 5 = .ok (.getfield 9, 3) := by decide +kernel
theorem dX3_makeFlowToNext_8 : decode cX3_makeFlowToNext 8 = .ok (.iload_n 2, 1) := by decide +kernel
theorem dX3_makeFlowToNext_9 : decode cX3_makeFlowToNext 9 = .ok (.iconst 0, 1) := by decide +kernel
theorem dX3_makeFlowToNext_10 : decode cX3_makeFlowToNext 10 = .ok (.iadd, 1) := by decide +kernel
theorem dX3_makeFlowToNext_11 : decode cX3_makeFlowToNext 11 = .ok (.iaload, 1) := by decide +kernel
theorem dX3_makeFlowToNext_12 : decode cX3_makeFlowToNext 12 = .ok (.istore_n 3, 1) := by decide +kernel
theorem dX3_makeFlowToNext_13 : decode cX3_makeFlowToNext 13 = .ok (.aload_n 0, 1) := by decide +kernel
theorem dX3_makeFlowToNext_14 : decode cX3_makeFlowToNext 14 = .ok (.getfield 9, 3) := by decide +kernel
theorem dX3_makeFlowToNext_17 : decode cX3_makeFlowToNext 17 = .ok (.iload_n 2, 1) := by decide +kernel
theorem dX3_makeFlowToNext_18 : decode cX3_makeFlowToNext 18 = .ok (.iconst 1, 1) := by decide +kernel
theorem dX3_makeFlowToNext_19 : decode cX3_makeFlowToNext 19 = .ok (.iadd, 1) := by decide +kernel
theorem dX3_makeFlowToNext_20 : decode cX3_makeFlowToNext 20 = .ok (.iaload, 1) := by decide +kernel
theorem dX3_makeFlowToNext_21 : decode cX3_makeFlowToNext 21 = .ok (.istore 4, 2) := by decide +kernel
theorem dX3_makeFlowToNext_23 : decode cX3_makeFlowToNext 23 = .ok (.aload_n 0, 1) := by decide +kernel
theorem dX3_makeFlowToNext_24 : decode cX3_makeFlowToNext 24 = .ok (.getfield 9, 3) := by decide +kernel
theorem dX3_makeFlowToNext_27 : decode cX3_makeFlowToNext 27 = .ok (.iload_n 2, 1) := by decide +kernel
theorem dX3_makeFlowToNext_28 : decode cX3_makeFlowToNext 28 = .ok (.iconst 2, 1) := by decide +kernel
theorem dX3_makeFlowToNext_29 : decode cX3_makeFlowToNext 29 = .ok (.iadd, 1) := by decide +kernel
theorem dX3_makeFlowToNext_30 : decode cX3_makeFlowToNext 30 = .ok (.iaload, 1) := by decide +kernel
theorem dX3_makeFlowToNext_31 : decode cX3_makeFlowToNext 31 = .ok (.istore 5, 2) := by decide +kernel
theorem dX3_makeFlowToNext_33 : decode cX3_makeFlowToNext 33 = .ok (.aload_n 0, 1) := by decide +kernel
theorem dX3_makeFlowToNext_34 : decode cX3_makeFlowToNext 34 = .ok (.getfield 27, 3) := by decide +kernel
theorem dX3_makeFlowToNext_37 : decode cX3_makeFlowToNext 37 = .ok (.aload_n 0, 1) := by decide +kernel
theorem dX3_makeFlowToNext_38 : decode cX3_makeFlowToNext 38 = .ok (.getfield 37, 3) := by decide +kernel
theorem dX3_makeFlowToNext_41 : decode cX3_makeFlowToNext 41 = .ok (.iload_n 1, 1) := by decide +kernel
theorem dX3_makeFlowToNext_42 : decode cX3_makeFlowToNext 42 = .ok (.invokevirtual 126, 3) := by decide +kernel
theorem dX3_makeFlowToNext_45 : decode cX3_makeFlowToNext 45 = .ok (.iload_n 3, 1) := by decide +kernel
theorem dX3_makeFlowToNext_46 : decode cX3_makeFlowToNext 46 = .ok (.tableswitch 192 1 11 #[58, 76, 106, 106, 106, 106, 130, 154, 163, 192, 174], 58) := by decide +kernel
theorem dX3_makeFlowToNext_104 : decode cX3_makeFlowToNext 104 = .ok (.aload_n 0, 1) := by decide +kernel
theorem dX3_makeFlowToNext_105 : decode cX3_makeFlowToNext 105 = .ok (.getfield 37, 3) := by decide +kernel
theorem dX3_makeFlowToNext_108 : decode cX3_makeFlowToNext 108 = .ok (.iload 4, 2) := by decide +kernel
theorem dX3_makeFlowToNext_110 : decode cX3_makeFlowToNext 110 = .ok (.iload 5, 2) := by decide +kernel
theorem dX3_makeFlowToNext_112 : decode cX3_makeFlowToNext 112 = .ok (.i2l, 1) := by decide +kernel
theorem dX3_makeFlowToNext_113 : decode cX3_makeFlowToNext 113 = .ok (.iload 5, 2) := by decide +kernel
theorem dX3_makeFlowToNext_115 : decode cX3_makeFlowToNext 115 = .ok (.i2l, 1) := by decide +kernel
theorem dX3_makeFlowToNext_116 : decode cX3_makeFlowToNext 116 = .ok (.invokevirtual 130, 3) := by decide +kernel
theorem dX3_makeFlowToNext_119 : decode cX3_makeFlowToNext 119 = .ok (.goto 126, 3) := by decide +kernel
theorem dX3_makeFlowToNext_122 : decode cX3_makeFlowToNext 122 = .ok (.aload_n 0, 1) := by decide +kernel
theorem dX3_makeFlowToNext_123 : decode cX3_makeFlowToNext 123 = .ok (.getfield 37, 3) := by decide +kernel
theorem dX3_makeFlowToNext_126 : decode cX3_makeFlowToNext 126 = .ok (.iload 4, 2) := by decide +kernel
theorem dX3_makeFlowToNext_128 : decode cX3_makeFlowToNext 128 = .ok (.aload_n 0, 1) := by decide +kernel
theorem dX3_makeFlowToNext_129 : decode cX3_makeFlowToNext 129 = .ok (.getfield 37, 3) := by decide +kernel
theorem dX3_makeFlowToNext_132 : decode cX3_makeFlowToNext 132 = .ok (.iload 5, 2) := by decide +kernel
theorem dX3_makeFlowToNext_134 : decode cX3_makeFlowToNext 134 = .ok (.invokevirtual 134, 3) := by decide +kernel
theorem dX3_makeFlowToNext_137 : decode cX3_makeFlowToNext 137 = .ok (.aload_n 0, 1) := by decide +kernel
theorem dX3_makeFlowToNext_138 : decode cX3_makeFlowToNext 138 = .ok (.getfield 37, 3) := by decide +kernel
theorem dX3_makeFlowToNext_141 : decode cX3_makeFlowToNext 141 = .ok (.iload 5, 2) := by decide +kernel
theorem dX3_makeFlowToNext_143 : decode cX3_makeFlowToNext 143 = .ok (.invokevirtual 137, 3) := by decide +kernel
theorem dX3_makeFlowToNext_146 : decode cX3_makeFlowToNext 146 = .ok (.invokevirtual 130, 3) := by decide +kernel
theorem dX3_makeFlowToNext_149 : decode cX3_makeFlowToNext 149 = .ok (.goto 96, 3) := by decide +kernel
theorem dX3_makeFlowToNext_152 : decode cX3_makeFlowToNext 152 = .ok (.aload_n 0, 1) := by decide +kernel
theorem dX3_makeFlowToNext_153 : decode cX3_makeFlowToNext 153 = .ok (.iload_n 3, 1) := by decide +kernel
theorem dX3_makeFlowToNext_154 : decode cX3_makeFlowToNext 154 = .ok (.iload 5, 2) := by decide +kernel
theorem dX3_makeFlowToNext_156 : decode cX3_makeFlowToNext 156 = .ok (.aload_n 0, 1) := by decide +kernel
theorem dX3_makeFlowToNext_157 : decode cX3_makeFlowToNext 157 = .ok (.getfield 9, 3) := by decide +kernel
theorem dX3_makeFlowToNext_160 : decode cX3_makeFlowToNext 160 = .ok (.iload_n 2, 1) := by decide +kernel
theorem dX3_makeFlowToNext_161 : decode cX3_makeFlowToNext 161 = .ok (.iconst 3, 1) := by decide +kernel
theorem dX3_makeFlowToNext_162 : decode cX3_makeFlowToNext 162 = .ok (.iadd, 1) := by decide +kernel
theorem dX3_makeFlowToNext_163 : decode cX3_makeFlowToNext 163 = .ok (.iaload, 1) := by decide +kernel
theorem dX3_makeFlowToNext_164 : decode cX3_makeFlowToNext 164 = .ok (.invokevirtual 139, 3) := by decide +kernel
theorem dX3_makeFlowToNext_167 : decode cX3_makeFlowToNext 167 = .ok (.aload_n 0, 1) := by decide +kernel
theorem dX3_makeFlowToNext_168 : decode cX3_makeFlowToNext 168 = .ok (.iload 4, 2) := by decide +kernel
theorem dX3_makeFlowToNext_170 : decode cX3_makeFlowToNext 170 = .ok (.invokevirtual 143, 3) := by decide +kernel
theorem dX3_makeFlowToNext_173 : decode cX3_makeFlowToNext 173 = .ok (.goto 72, 3) := by decide +kernel
theorem dX3_makeFlowToNext_176 : decode cX3_makeFlowToNext 176 = .ok (.aload_n 0, 1) := by decide +kernel
theorem dX3_makeFlowToNext_177 : decode cX3_makeFlowToNext 177 = .ok (.iload 5, 2) := by decide +kernel
theorem dX3_makeFlowToNext_179 : decode cX3_makeFlowToNext 179 = .ok (.invokevirtual 146, 3) := by decide +kernel
theorem dX3_makeFlowToNext_182 : decode cX3_makeFlowToNext 182 = .ok (.aload_n 0, 1) := by decide +kernel
theorem dX3_makeFlowToNext_183 : decode cX3_makeFlowToNext 183 = .ok (.getfield 37, 3) := by decide +kernel
theorem dX3_makeFlowToNext_186 : decode cX3_makeFlowToNext 186 = .ok (.iload 4, 2) := by decide +kernel
theorem dX3_makeFlowToNext_188 : decode cX3_makeFlowToNext 188 = .ok (.ldc2_w 149, 3) := by decide +kernel
theorem dX3_makeFlowToNext_191 : decode cX3_makeFlowToNext 191 = .ok (.ldc2_w 151, 3) := by decide +kernel
theorem dX3_makeFlowToNext_194 : decode cX3_makeFlowToNext 194 = .ok (.invokevirtual 130, 3) := by decide +kernel
theorem dX3_makeFlowToNext_197 : decode cX3_makeFlowToNext 197 = .ok (.goto 48, 3) := by decide +kernel
theorem dX3_makeFlowToNext_200 : decode cX3_makeFlowToNext 200 = .ok (.aload_n 0, 1) := by decide +kernel
theorem dX3_makeFlowToNext_201 : decode cX3_makeFlowToNext 201 = .ok (.iload 5, 2) := by decide +kernel
theorem dX3_makeFlowToNext_203 : decode cX3_makeFlowToNext 203 = .ok (.invokevirtual 146, 3) := by decide +kernel
theorem dX3_makeFlowToNext_206 : decode cX3_makeFlowToNext 206 = .ok (.goto 39, 3) := by decide +kernel
theorem dX3_makeFlowToNext_209 : decode cX3_makeFlowToNext 209 = .ok (.aload_n 0, 1) := by decide +kernel
theorem dX3_makeFlowToNext_210 : decode cX3_makeFlowToNext 210 = .ok (.iload 4, 2) := by decide +kernel
theorem dX3_makeFlowToNext_212 : decode cX3_makeFlowToNext 212 = .ok (.iload 5, 2) := by decide +kernel
theorem dX3_makeFlowToNext_214 : decode cX3_makeFlowToNext 214 = .ok (.invokevirtual 153, 3) := by decide +kernel
theorem dX3_makeFlowToNext_217 : decode cX3_makeFlowToNext 217 = .ok (.goto 28, 3) := by decide +kernel
theorem dX3_makeFlowToNext_220 : decode cX3_makeFlowToNext 220 = .ok (.aload_n 0, 1) := by decide +kernel
theorem dX3_makeFlowToNext_221 : decode cX3_makeFlowToNext 221 = .ok (.getfield 37, 3) := by decide +kernel
theorem dX3_makeFlowToNext_224 : decode cX3_makeFlowToNext 224 = .ok (.iload 4, 2) := by decide +kernel
theorem dX3_makeFlowToNext_226 : decode cX3_makeFlowToNext 226 = .ok (.ldc2_w 149, 3) := by decide +kernel
theorem dX3_makeFlowToNext_229 : decode cX3_makeFlowToNext 229 = .ok (.ldc2_w 151, 3) := by decide +kernel
theorem dX3_makeFlowToNext_232 : decode cX3_makeFlowToNext 232 = .ok (.invokevirtual 130, 3) := by decide +kernel
theorem dX3_makeFlowToNext_235 : decode cX3_makeFlowToNext 235 = .ok (.goto 10, 3) := by decide +kernel
theorem dX3_makeFlowToNext_238 : decode cX3_makeFlowToNext 238 = .ok (.aload_n 0, 1) := by decide +kernel
theorem dX3_makeFlowToNext_239 : decode cX3_makeFlowToNext 239 = .ok (.getfield 37, 3) := by decide +kernel
theorem dX3_makeFlowToNext_242 : decode cX3_makeFlowToNext 242 = .ok (.invokevirtual 157, 3) := by decide +kernel
theorem dX3_makeFlowToNext_245 : decode cX3_makeFlowToNext 245 = .ok (.return_, 1) := by decide +kernel
set_option maxRecDepth 20000 in
theorem ggX3_makeFlowToPlace_X2_copyTo : GoodIn wsX3_makeFlowToPlace wsX2_copyTo := goodIn_r _ [8, 9, 10, 11, 12, 13, 14, 15, 16, 17, 7, 18, 19, 20, 21, 22, 23, 24, 25, 26, 27, 28, 29, 30, 75, 76, 77, 78, 79, 80] (by decide +kernel) (by decide +kernel)
set_option maxRecDepth 20000 in
theorem gX3_makeFlowToPlace_X2_copyTo : GoodIn wsX3_makeFlowToPlace (wsV RX3 126 RX2 yX2_copyTo wsX2_copyTo) := goodIn_app (goodIn_of _ (by decide +kernel)) ggX3_makeFlowToPlace_X2_copyTo
set_option maxRecDepth 20000 in
theorem ggX3_makeFlowToPlace_X3_keepLess : GoodIn wsX3_makeFlowToPlace wsX3_keepLess := goodIn_r _ [35, 2, 36, 37, 38, 12, 39, 14, 40, 41, 42, 43, 30, 44, 45, 46, 47, 48, 49, 50, 51, 52, 53, 54, 55, 29, 56, 57, 58, 59, 60, 61, 62, 63, 64, 65, 66, 67, 68, 69, 70, 71, 72, 73, 74, 75, 76, 77] (by decide +kernel) (by decide +kernel)
set_option maxRecDepth 20000 in
theorem gX3_makeFlowToPlace_X3_keepLess : GoodIn wsX3_makeFlowToPlace (wsV RX3 160 RX3 yX3_keepLess wsX3_keepLess) := goodIn_app (goodIn_of _ (by decide +kernel)) ggX3_makeFlowToPlace_X3_keepLess
set_option maxRecDepth 20000 in
theorem ggX3_makeFlowToPlace_X0_stop : GoodIn wsX3_makeFlowToPlace wsX0_stop := goodIn_r _ [39, 14, 75, 76, 77] (by decide +kernel) (by decide +kernel)
set_option maxRecDepth 20000 in
theorem gX3_makeFlowToPlace_X0_stop : GoodIn wsX3_makeFlowToPlace (wsV RX3 157 RX0 yX0_stop wsX0_stop) := goodIn_app (goodIn_of _ (by decide +kernel)) ggX3_makeFlowToPlace_X0_stop
theorem dX3_makeFlowToPlace_0 : decode cX3_makeFlowToPlace 0 = .ok (.iload_n 1, 1) := by decide +kernel
theorem dX3_makeFlowToPlace_1 : decode cX3_makeFlowToPlace 1 = .ok (.iconst 4, 1) := by decide +kernel
theorem dX3_makeFlowToPlace_2 : decode cX3_makeFlowToPlace 2 = .ok (.imul, 1) := by decide +kernel
theorem dX3_makeFlowToPlace_3 : decode cX3_makeFlowToPlace 3 = .ok (.istore_n 2, 1) := by decide +kernel
theorem dX3_makeFlowToPlace_4 : decode cX3_makeFlowToPlace 4 = .ok (.aload_n 0, 1) := by decide +kernel
theorem dX3_makeFlowToPlace_5 : decode cX3_makeFlowToPlace 5 = .ok (.getfield 27, 3) := by decide +kernel
theorem dX3_makeFlowToPlace_8 : decode cX3_makeFlowToPlace 8 = .ok (.aload_n 0, 1) := by decide +kernel
theorem dX3_makeFlowToPlace_9 : decode cX3_makeFlowToPlace 9 = .ok (.getfield 37, 3) := by decide +kernel
theorem dX3_makeFlowToPlace_12 : decode cX3_makeFlowToPlace 12 = .ok (.iload_n 1, 1) := by decide +kernel
theorem dX3_makeFlowToPlace_13 : decode cX3_makeFlowToPlace 13 = .ok (.invokevirtual 126, 3) := by decide +kernel
theorem dX3_makeFlowToPlace_16 : decode cX3_makeFlowToPlace 16 = .ok (.aload_n 0, 1) := by decide +kernel
theorem dX3_makeFlowToPlace_17 : decode cX3_makeFlowToPlace 17 = .ok (.getfield 9, 3) := by decide +kernel
theorem dX3_makeFlowToPlace_20 : decode cX3_makeFlowToPlace 20 = .ok (.iload_n 2, 1) := by decide +kernel
theorem dX3_makeFlowToPlace_21 : decode cX3_makeFlowToPlace 21 = .ok (.iconst 0, 1) := by decide +kernel
theorem dX3_makeFlowToPlace_22 : decode cX3_makeFlowToPlace 22 = .ok (.iadd, 1) := by decide +kernel
theorem dX3_makeFlowToPlace_23 : decode cX3_makeFlowToPlace 23 = .ok (.iaload, 1) := by decide +kernel
theorem dX3_makeFlowToPlace_24 : decode cX3_makeFlowToPlace 24 = .ok (.lookupswitch 54 #[(9, 28), (10, 51)], 28) := by decide +kernel
theorem dX3_makeFlowToPlace_52 : decode cX3_makeFlowToPlace 52 = .ok (.aload_n 0, 1) := by decide +kernel
theorem dX3_makeFlowToPlace_53 : decode cX3_makeFlowToPlace 53 = .ok (.aload_n 0, 1) := by decide +kernel
theorem dX3_makeFlowToPlace_54 : decode cX3_makeFlowToPlace 54 = .ok (.getfield 9, 3) := by decide +kernel
theorem dX3_makeFlowToPlace_57 : decode cX3_makeFlowToPlace 57 = .ok (.iload_n 2, 1) := by decide +kernel
theorem dX3_makeFlowToPlace_58 : decode cX3_makeFlowToPlace 58 = .ok (.iconst 1, 1) := by decide +kernel
theorem dX3_makeFlowToPlace_59 : decode cX3_makeFlowToPlace 59 = .ok (.iadd, 1) := by decide +kernel
theorem dX3_makeFlowToPlace_60 : decode cX3_makeFlowToPlace 60 = .ok (.iaload, 1) := by decide +kernel
theorem dX3_makeFlowToPlace_61 : decode cX3_makeFlowToPlace 61 = .ok (.aload_n 0, 1) := by decide +kernel
theorem dX3_makeFlowToPlace_62 : decode cX3_makeFlowToPlace 62 = .ok (.getfield 9, 3) := by decide +kernel
theorem dX3_makeFlowToPlace_65 : decode cX3_makeFlowToPlace 65 = .ok (.iload_n 2, 1) := by decide +kernel
theorem dX3_makeFlowToPlace_66 : decode cX3_makeFlowToPlace 66 = .ok (.iconst 2, 1) := by decide +kernel
theorem dX3_makeFlowToPlace_67 : decode cX3_makeFlowToPlace 67 = .ok (.iadd, 1) := by decide +kernel
theorem dX3_makeFlowToPlace_68 : decode cX3_makeFlowToPlace 68 = .ok (.iaload, 1) := by decide +kernel
theorem dX3_makeFlowToPlace_69 : decode cX3_makeFlowToPlace 69 = .ok (.invokevirtual 160, 3) := by decide +kernel
theorem dX3_makeFlowToPlace_72 : decode cX3_makeFlowToPlace 72 = .ok (.goto 13, 3) := by decide +kernel
theorem dX3_makeFlowToPlace_75 : decode cX3_makeFlowToPlace 75 = .ok (.goto 10, 3) := by decide +kernel
theorem dX3_makeFlowToPlace_78 : decode cX3_makeFlowToPlace 78 = .ok (.aload_n 0, 1) := by decide +kernel
theorem dX3_makeFlowToPlace_79 : decode cX3_makeFlowToPlace 79 = .ok (.getfield 37, 3) := by decide +kernel
theorem dX3_makeFlowToPlace_82 : decode cX3_makeFlowToPlace 82 = .ok (.invokevirtual 157, 3) := by decide +kernel
theorem dX3_makeFlowToPlace_85 : decode cX3_makeFlowToPlace 85 = .ok (.return_, 1) := by decide +kernel
set_option maxRecDepth 20000 in
theorem ggX3_calculate_X0_lowOf : GoodIn wsX3_calculate wsX0_lowOf := goodIn_r _ [15, 16, 50, 51, 52] (by decide +kernel) (by decide +kernel)
set_option maxRecDepth 20000 in
theorem gX3_calculate_X0_lowOf : GoodIn wsX3_calculate (wsV RX3 134 RX0 yX0_lowOf wsX0_lowOf) := goodIn_app (goodIn_of _ (by decide +kernel)) ggX3_calculate_X0_lowOf
set_option maxRecDepth 20000 in
theorem ggX3_calculate_X0_highOf : GoodIn wsX3_calculate wsX0_highOf := goodIn_r _ [20, 21, 50, 51, 52] (by decide +kernel) (by decide +kernel)
set_option maxRecDepth 20000 in
theorem gX3_calculate_X0_highOf : GoodIn wsX3_calculate (wsV RX3 137 RX0 yX0_highOf wsX0_highOf) := goodIn_app (goodIn_of _ (by decide +kernel)) ggX3_calculate_X0_highOf
set_option maxRecDepth 20000 in
theorem ggX3_calculate_X1_forget : GoodIn wsX3_calculate wsX1_forget := goodIn_r _ [26, 27, 53, 54, 55] (by decide +kernel) (by decide +kernel)
set_option maxRecDepth 20000 in
theorem gX3_calculate_X1_forget : GoodIn wsX3_calculate (wsV RX3 163 RX1 yX1_forget wsX1_forget) := goodIn_app (goodIn_of _ (by decide +kernel)) ggX3_calculate_X1_forget
set_option maxRecDepth 20000 in
theorem ggX3_calculate_X3_takeEnds : GoodIn wsX3_calculate wsX3_takeEnds := goodIn_r _ [32, 1, 2, 11, 12, 13, 14, 15, 16, 17, 18, 19, 20, 21, 33, 34, 31, 35, 36, 37, 38, 25, 39, 27, 40, 41, 42, 43, 44, 45, 46, 47, 48, 49, 50, 51, 52, 53, 54, 55] (by decide +kernel) (by decide +kernel)
set_option maxRecDepth 20000 in
theorem gX3_calculate_X3_takeEnds : GoodIn wsX3_calculate (wsV RX3 174 RX3 yX3_takeEnds wsX3_takeEnds) := goodIn_app (goodIn_of _ (by decide +kernel)) ggX3_calculate_X3_takeEnds
theorem dX3_calculate_0 : decode cX3_calculate 0 = .ok (.aload_n 0, 1) := by decide +kernel
theorem dX3_calculate_1 : decode cX3_calculate 1 = .ok (.getfield 37, 3) := by decide +kernel
theorem dX3_calculate_4 : decode cX3_calculate 4 = .ok (.iload_n 3, 1) := by decide +kernel
theorem dX3_calculate_5 : decode cX3_calculate 5 = .ok (.invokevirtual 134, 3) := by decide +kernel
theorem dX3_calculate_8 : decode cX3_calculate 8 = .ok (.lstore 4, 2) := by decide +kernel
theorem dX3_calculate_10 : decode cX3_calculate 10 = .ok (.aload_n 0, 1) := by decide +kernel
theorem dX3_calculate_11 : decode cX3_calculate 11 = .ok (.getfield 37, 3) := by decide +kernel
theorem dX3_calculate_14 : decode cX3_calculate 14 = .ok (.iload_n 3, 1) := by decide +kernel
theorem dX3_calculate_15 : decode cX3_calculate 15 = .ok (.invokevirtual 137, 3) := by decide +kernel
theorem dX3_calculate_18 : decode cX3_calculate 18 = .ok (.lstore 6, 2) := by decide +kernel
theorem dX3_calculate_20 : decode cX3_calculate 20 = .ok (.aload_n 0, 1) := by decide +kernel
theorem dX3_calculate_21 : decode cX3_calculate 21 = .ok (.getfield 44, 3) := by decide +kernel
theorem dX3_calculate_24 : decode cX3_calculate 24 = .ok (.invokevirtual 163, 3) := by decide +kernel
theorem dX3_calculate_27 : decode cX3_calculate 27 = .ok (.iload_n 1, 1) := by decide +kernel
theorem dX3_calculate_28 : decode cX3_calculate 28 = .ok (.bipush 6, 2) := by decide +kernel
theorem dX3_calculate_30 : decode cX3_calculate 30 = .ok (.if_icmp .ne 36, 3) := by decide +kernel
theorem dX3_calculate_33 : decode cX3_calculate 33 = .ok (.aload_n 0, 1) := by decide +kernel
theorem dX3_calculate_34 : decode cX3_calculate 34 = .ok (.iload_n 1, 1) := by decide +kernel
theorem dX3_calculate_35 : decode cX3_calculate 35 = .ok (.iload_n 2, 1) := by decide +kernel
theorem dX3_calculate_36 : decode cX3_calculate 36 = .ok (.lload 4, 2) := by decide +kernel
theorem dX3_calculate_38 : decode cX3_calculate 38 = .ok (.lload 6, 2) := by decide +kernel
theorem dX3_calculate_40 : decode cX3_calculate 40 = .ok (.ldc2_w 166, 3) := by decide +kernel
theorem dX3_calculate_43 : decode cX3_calculate 43 = .ok (.invokestatic 168, 3) := by decide +kernel
theorem dX3_calculate_46 : decode cX3_calculate 46 = .ok (.invokevirtual 174, 3) := by decide +kernel
theorem dX3_calculate_49 : decode cX3_calculate 49 = .ok (.aload_n 0, 1) := by decide +kernel
theorem dX3_calculate_50 : decode cX3_calculate 50 = .ok (.iload_n 1, 1) := by decide +kernel
theorem dX3_calculate_51 : decode cX3_calculate 51 = .ok (.iload_n 2, 1) := by decide +kernel
theorem dX3_calculate_52 : decode cX3_calculate 52 = .ok (.lload 4, 2) := by decide +kernel
theorem dX3_calculate_54 : decode cX3_calculate 54 = .ok (.lconst 1, 1) := by decide +kernel
theorem dX3_calculate_55 : decode cX3_calculate 55 = .ok (.invokestatic 178, 3) := by decide +kernel
theorem dX3_calculate_58 : decode cX3_calculate 58 = .ok (.lload 6, 2) := by decide +kernel
theorem dX3_calculate_60 : decode cX3_calculate 60 = .ok (.invokevirtual 174, 3) := by decide +kernel
theorem dX3_calculate_63 : decode cX3_calculate 63 = .ok (.goto 13, 3) := by decide +kernel
theorem dX3_calculate_66 : decode cX3_calculate 66 = .ok (.aload_n 0, 1) := by decide +kernel
theorem dX3_calculate_67 : decode cX3_calculate 67 = .ok (.iload_n 1, 1) := by decide +kernel
theorem dX3_calculate_68 : decode cX3_calculate 68 = .ok (.iload_n 2, 1) := by decide +kernel
theorem dX3_calculate_69 : decode cX3_calculate 69 = .ok (.lload 4, 2) := by decide +kernel
theorem dX3_calculate_71 : decode cX3_calculate 71 = .ok (.lload 6, 2) := by decide +kernel
theorem dX3_calculate_73 : decode cX3_calculate 73 = .ok (.invokevirtual 174, 3) := by decide +kernel
theorem dX3_calculate_76 : decode cX3_calculate 76 = .ok (.return_, 1) := by decide +kernel
set_option maxRecDepth 20000 in
theorem ggX3_takeEnds_X0_lowOf : GoodIn wsX3_takeEnds wsX0_lowOf := goodIn_r _ [7, 8, 34, 35, 36] (by decide +kernel) (by decide +kernel)
set_option maxRecDepth 20000 in
theorem gX3_takeEnds_X0_lowOf : GoodIn wsX3_takeEnds (wsV RX3 134 RX0 yX0_lowOf wsX0_lowOf) := goodIn_app (goodIn_of _ (by decide +kernel)) ggX3_takeEnds_X0_lowOf
set_option maxRecDepth 20000 in
theorem ggX3_takeEnds_X0_highOf : GoodIn wsX3_takeEnds wsX0_highOf := goodIn_r _ [12, 13, 34, 35, 36] (by decide +kernel) (by decide +kernel)
set_option maxRecDepth 20000 in
theorem gX3_takeEnds_X0_highOf : GoodIn wsX3_takeEnds (wsV RX3 137 RX0 yX0_highOf wsX0_highOf) := goodIn_app (goodIn_of _ (by decide +kernel)) ggX3_takeEnds_X0_highOf
set_option maxRecDepth 20000 in
theorem ggX3_takeEnds_X3_exactResult : GoodIn wsX3_takeEnds wsX3_exactResult := goodIn_r _ [17] (by decide +kernel) (by decide +kernel)
set_option maxRecDepth 20000 in
theorem gX3_takeEnds_X3_exactResult : GoodIn wsX3_takeEnds (va_wsS RX3 181 yX3_exactResult wsX3_exactResult) := goodIn_app (goodIn_of _ (by decide +kernel)) ggX3_takeEnds_X3_exactResult
set_option maxRecDepth 20000 in
theorem ggX3_takeEnds_X1_take : GoodIn wsX3_takeEnds wsX1_take := goodIn_r _ [22, 23, 24, 25, 37, 38, 39] (by decide +kernel) (by decide +kernel)
set_option maxRecDepth 20000 in
theorem gX3_takeEnds_X1_take : GoodIn wsX3_takeEnds (wsV RX3 185 RX1 yX1_take wsX1_take) := goodIn_app (goodIn_of _ (by decide +kernel)) ggX3_takeEnds_X1_take
theorem dX3_takeEnds_0 : decode cX3_takeEnds 0 = .ok (.lload_n 3, 1) := by decide +kernel
theorem dX3_takeEnds_1 : decode cX3_takeEnds 1 = .ok (.lload 5, 2) := by decide +kernel
theorem dX3_takeEnds_3 : decode cX3_takeEnds 3 = .ok (.lcmp, 1) := by decide +kernel
theorem dX3_takeEnds_4 : decode cX3_takeEnds 4 = .ok (.ifCond .le 4, 3) := by decide +kernel
theorem dX3_takeEnds_7 : decode cX3_takeEnds 7 = .ok (.return_, 1) := by decide +kernel
theorem dX3_takeEnds_8 : decode cX3_takeEnds 8 = .ok (.aload_n 0, 1) := by decide +kernel
theorem dX3_takeEnds_9 : decode cX3_takeEnds 9 = .ok (.getfield 37, 3) := by decide +kernel
theorem dX3_takeEnds_12 : decode cX3_takeEnds 12 = .ok (.iload_n 2, 1) := by decide +kernel
theorem dX3_takeEnds_13 : decode cX3_takeEnds 13 = .ok (.invokevirtual 134, 3) := by decide +kernel
theorem dX3_takeEnds_16 : decode cX3_takeEnds 16 = .ok (.lstore 7, 2) := by decide +kernel
theorem dX3_takeEnds_18 : decode cX3_takeEnds 18 = .ok (.aload_n 0, 1) := by decide +kernel
theorem dX3_takeEnds_19 : decode cX3_takeEnds 19 = .ok (.getfield 37, 3) := by decide +kernel
theorem dX3_takeEnds_22 : decode cX3_takeEnds 22 = .ok (.iload_n 2, 1) := by decide +kernel
theorem dX3_takeEnds_23 : decode cX3_takeEnds 23 = .ok (.invokevirtual 137, 3) := by decide +kernel
theorem dX3_takeEnds_26 : decode cX3_takeEnds 26 = .ok (.lstore 9, 2) := by decide +kernel
theorem dX3_takeEnds_28 : decode cX3_takeEnds 28 = .ok (.aload_n 0, 1) := by decide +kernel
theorem dX3_takeEnds_29 : decode cX3_takeEnds 29 = .ok (.getfield 44, 3) := by decide +kernel
theorem dX3_takeEnds_32 : decode cX3_takeEnds 32 = .ok (.iload_n 1, 1) := by decide +kernel
theorem dX3_takeEnds_33 : decode cX3_takeEnds 33 = .ok (.lload 7, 2) := by decide +kernel
theorem dX3_takeEnds_35 : decode cX3_takeEnds 35 = .ok (.lload_n 3, 1) := by decide +kernel
theorem dX3_takeEnds_36 : decode cX3_takeEnds 36 = .ok (.invokestatic 181, 3) := by decide +kernel
theorem dX3_takeEnds_39 : decode cX3_takeEnds 39 = .ok (.invokevirtual 185, 3) := by decide +kernel
theorem dX3_takeEnds_42 : decode cX3_takeEnds 42 = .ok (.aload_n 0, 1) := by decide +kernel
theorem dX3_takeEnds_43 : decode cX3_takeEnds 43 = .ok (.getfield 44, 3) := by decide +kernel
theorem dX3_takeEnds_46 : decode cX3_takeEnds 46 = .ok (.iload_n 1, 1) := by decide +kernel
theorem dX3_takeEnds_47 : decode cX3_takeEnds 47 = .ok (.lload 7, 2) := by decide +kernel
theorem dX3_takeEnds_49 : decode cX3_takeEnds 49 = .ok (.lload 5, 2) := by decide +kernel
theorem dX3_takeEnds_51 : decode cX3_takeEnds 51 = .ok (.invokestatic 181, 3) := by decide +kernel
theorem dX3_takeEnds_54 : decode cX3_takeEnds 54 = .ok (.invokevirtual 185, 3) := by decide +kernel
theorem dX3_takeEnds_57 : decode cX3_takeEnds 57 = .ok (.aload_n 0, 1) := by decide +kernel
theorem dX3_takeEnds_58 : decode cX3_takeEnds 58 = .ok (.getfield 44, 3) := by decide +kernel
theorem dX3_takeEnds_61 : decode cX3_takeEnds 61 = .ok (.iload_n 1, 1) := by decide +kernel
theorem dX3_takeEnds_62 : decode cX3_takeEnds 62 = .ok (.lload 9, 2) := by decide +kernel
theorem dX3_takeEnds_64 : decode cX3_takeEnds 64 = .ok (.lload_n 3, 1) := by decide +kernel
