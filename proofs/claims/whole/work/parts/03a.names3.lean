set_option maxRecDepth 20000 in
theorem ggX3_init_X2_init : GoodIn wsX3_init wsX2_init := goodIn_r _ [23, 24, 2, 3, 25, 26, 27, 28, 29, 50, 51, 52] (by decide +kernel) (by decide +kernel)
set_option maxRecDepth 20000 in
theorem gX3_init_X2_init_n26 : GoodIn wsX3_init (wsX2_init) := ggX3_init_X2_init
set_option maxRecDepth 20000 in
theorem ggX3_init_X0_init : GoodIn wsX3_init wsX0_init := goodIn_r _ [31, 32, 2, 3, 33, 27, 34, 35, 53, 54, 55] (by decide +kernel) (by decide +kernel)
set_option maxRecDepth 20000 in
theorem gX3_init_X0_init_n36 : GoodIn wsX3_init (wsX0_init) := ggX3_init_X0_init
set_option maxRecDepth 20000 in
theorem ggX3_init_X1_init : GoodIn wsX3_init wsX1_init := goodIn_r _ [37, 38, 2, 3, 39, 40, 41, 56, 57, 58] (by decide +kernel) (by decide +kernel)
set_option maxRecDepth 20000 in
theorem gX3_init_X1_init_n43 : GoodIn wsX3_init (wsX1_init) := ggX3_init_X1_init
theorem dX3_init_0 : decode cX3_init 0 = .ok (.aload_n 0, 1) := by decide +kernel
theorem dX3_init_1 : decode cX3_init 1 = .ok (.invokespecial 1, 3) := by decide +kernel
theorem dX3_init_4 : decode cX3_init 4 = .ok (.aload_n 0, 1) := by decide +kernel
theorem dX3_init_5 : decode cX3_init 5 = .ok (.bipush 96, 2) := by decide +kernel
theorem dX3_init_7 : decode cX3_init 7 = .ok (.newarray .int, 2) := by decide +kernel
theorem dX3_init_9 : decode cX3_init 9 = .ok (.putfield 9, 3) := by decide +kernel
theorem dX3_init_12 : decode cX3_init 12 = .ok (.aload_n 0, 1) := by decide +kernel
theorem dX3_init_13 : decode cX3_init 13 = .ok (.iconst 0, 1) := by decide +kernel
theorem dX3_init_14 : decode cX3_init 14 = .ok (.putfield 13, 3) := by decide +kernel
theorem dX3_init_17 : decode cX3_init 17 = .ok (.aload_n 0, 1) := by decide +kernel
theorem dX3_init_18 : decode cX3_init 18 = .ok (.iconst 0, 1) := by decide +kernel
theorem dX3_init_19 : decode cX3_init 19 = .ok (.putfield 17, 3) := by decide +kernel
theorem dX3_init_22 : decode cX3_init 22 = .ok (.aload_n 0, 1) := by decide +kernel
theorem dX3_init_23 : decode cX3_init 23 = .ok (.iconst 0, 1) := by decide +kernel
theorem dX3_init_24 : decode cX3_init 24 = .ok (.putfield 21, 3) := by decide +kernel
theorem dX3_init_27 : decode cX3_init 27 = .ok (.aload_n 0, 1) := by decide +kernel
theorem dX3_init_28 : decode cX3_init 28 = .ok (.new 24, 3) := by decide +kernel
theorem dX3_init_31 : decode cX3_init 31 = .ok (.dup, 1) := by decide +kernel
theorem dX3_init_32 : decode cX3_init 32 = .ok (.invokespecial 26, 3) := by decide +kernel
theorem dX3_init_35 : decode cX3_init 35 = .ok (.putfield 27, 3) := by decide +kernel
theorem dX3_init_38 : decode cX3_init 38 = .ok (.aload_n 0, 1) := by decide +kernel
theorem dX3_init_39 : decode cX3_init 39 = .ok (.new 24, 3) := by decide +kernel
theorem dX3_init_42 : decode cX3_init 42 = .ok (.dup, 1) := by decide +kernel
theorem dX3_init_43 : decode cX3_init 43 = .ok (.invokespecial 26, 3) := by decide +kernel
theorem dX3_init_46 : decode cX3_init 46 = .ok (.putfield 31, 3) := by decide +kernel
theorem dX3_init_49 : decode cX3_init 49 = .ok (.aload_n 0, 1) := by decide +kernel
theorem dX3_init_50 : decode cX3_init 50 = .ok (.new 34, 3) := by decide +kernel
theorem dX3_init_53 : decode cX3_init 53 = .ok (.dup, 1) := by decide +kernel
theorem dX3_init_54 : decode cX3_init 54 = .ok (.invokespecial 36, 3) := by decide +kernel
theorem dX3_init_57 : decode cX3_init 57 = .ok (.putfield 37, 3) := by decide +kernel
theorem dX3_init_60 : decode cX3_init 60 = .ok (.aload_n 0, 1) := by decide +kernel
theorem dX3_init_61 : decode cX3_init 61 = .ok (.new 41, 3) := by decide +kernel
theorem dX3_init_64 : decode cX3_init 64 = .ok (.dup, 1) := by decide +kernel
theorem dX3_init_65 : decode cX3_init 65 = .ok (.invokespecial 43, 3) := by decide +kernel
theorem dX3_init_68 : decode cX3_init 68 = .ok (.putfield 44, 3) := by decide +kernel
theorem dX3_init_71 : decode cX3_init 71 = .ok (.return_, 1) := by decide +kernel
set_option maxRecDepth 20000 in
theorem ggX3_add_X3_areVariablesRight : GoodIn wsX3_add wsX3_areVariablesRight := goodIn_r _ [6, 7, 8, 5, 9] (by decide +kernel) (by decide +kernel)
set_option maxRecDepth 20000 in
theorem gX3_add_X3_areVariablesRight : GoodIn wsX3_add (va_wsS RX3 48 yX3_areVariablesRight wsX3_areVariablesRight) := goodIn_app (goodIn_of _ (by decide +kernel)) ggX3_add_X3_areVariablesRight
set_option maxRecDepth 20000 in
theorem ggX3_add_X3_isPlaceRight : GoodIn wsX3_add wsX3_isPlaceRight := goodIn_r _ [12, 13, 14, 5, 15] (by decide +kernel) (by decide +kernel)
set_option maxRecDepth 20000 in
theorem gX3_add_X3_isPlaceRight : GoodIn wsX3_add (va_wsS RX3 52 yX3_isPlaceRight wsX3_isPlaceRight) := goodIn_app (goodIn_of _ (by decide +kernel)) ggX3_add_X3_isPlaceRight
set_option maxRecDepth 20000 in
theorem ggX3_add_X3_forgetScan : GoodIn wsX3_add wsX3_forgetScan := goodIn_r _ [19, 20, 21, 22, 23, 24, 25, 26, 27, 28, 29] (by decide +kernel) (by decide +kernel)
set_option maxRecDepth 20000 in
theorem gX3_add_X3_forgetScan : GoodIn wsX3_add (wsV RX3 56 RX3 yX3_forgetScan wsX3_forgetScan) := goodIn_app (goodIn_of _ (by decide +kernel)) ggX3_add_X3_forgetScan
theorem dX3_add_0 : decode cX3_add 0 = .ok (.iload_n 1, 1) := by decide +kernel
theorem dX3_add_1 : decode cX3_add 1 = .ok (.ifCond .lt 29, 3) := by decide +kernel
theorem dX3_add_4 : decode cX3_add 4 = .ok (.iload_n 1, 1) := by decide +kernel
theorem dX3_add_5 : decode cX3_add 5 = .ok (.bipush 11, 2) := by decide +kernel
theorem dX3_add_7 : decode cX3_add 7 = .ok (.if_icmp .gt 23, 3) := by decide +kernel
theorem dX3_add_10 : decode cX3_add 10 = .ok (.iload_n 1, 1) := by decide +kernel
theorem dX3_add_11 : decode cX3_add 11 = .ok (.iload_n 2, 1) := by decide +kernel
theorem dX3_add_12 : decode cX3_add 12 = .ok (.iload_n 3, 1) := by decide +kernel
theorem dX3_add_13 : decode cX3_add 13 = .ok (.iload 4, 2) := by decide +kernel
theorem dX3_add_15 : decode cX3_add 15 = .ok (.invokestatic 48, 3) := by decide +kernel
theorem dX3_add_18 : decode cX3_add 18 = .ok (.ifCond .eq 12, 3) := by decide +kernel
theorem dX3_add_21 : decode cX3_add 21 = .ok (.iload_n 1, 1) := by decide +kernel
theorem dX3_add_22 : decode cX3_add 22 = .ok (.iload 4, 2) := by decide +kernel
theorem dX3_add_24 : decode cX3_add 24 = .ok (.invokestatic 52, 3) := by decide +kernel
theorem dX3_add_27 : decode cX3_add 27 = .ok (.ifCond .ne 5, 3) := by decide +kernel
theorem dX3_add_30 : decode cX3_add 30 = .ok (.iconst (-1), 1) := by decide +kernel
theorem dX3_add_31 : decode cX3_add 31 = .ok (.ireturn, 1) := by decide +kernel
theorem dX3_add_32 : decode cX3_add 32 = .ok (.aload_n 0, 1) := by decide +kernel
theorem dX3_add_33 : decode cX3_add 33 = .ok (.getfield 13, 3) := by decide +kernel
theorem dX3_add_36 : decode cX3_add 36 = .ok (.bipush 24, 2) := by decide +kernel
theorem dX3_add_38 : decode cX3_add 38 = .ok (.if_icmp .lt 6, 3) := by decide +kernel
theorem dX3_add_41 : decode cX3_add 41 = .ok (.bipush (-2), 2) := by decide +kernel
theorem dX3_add_43 : decode cX3_add 43 = .ok (.ireturn, 1) := by decide +kernel
theorem dX3_add_44 : decode cX3_add 44 = .ok (.aload_n 0, 1) := by decide +kernel
theorem dX3_add_45 : decode cX3_add 45 = .ok (.getfield 13, 3) := by decide +kernel
theorem dX3_add_48 : decode cX3_add 48 = .ok (.iconst 4, 1) := by decide +kernel
theorem dX3_add_49 : decode cX3_add 49 = .ok (.imul, 1) := by decide +kernel
theorem dX3_add_50 : decode cX3_add 50 = .ok (.istore 5, 2) := by decide +kernel
theorem dX3_add_52 : decode cX3_add 52 = .ok (.aload_n 0, 1) := by decide +kernel
theorem dX3_add_53 : decode cX3_add 53 = .ok (.getfield 9, 3) := by decide +kernel
theorem dX3_add_56 : decode cX3_add 56 = .ok (.iload 5, 2) := by decide +kernel
theorem dX3_add_58 : decode cX3_add 58 = .ok (.iconst 0, 1) := by decide +kernel
theorem dX3_add_59 : decode cX3_add 59 = .ok (.iadd, 1) := by decide +kernel
theorem dX3_add_60 : decode cX3_add 60 = .ok (.iload_n 1, 1) := by decide +kernel
theorem dX3_add_61 : decode cX3_add 61 = .ok (.iastore, 1) := by decide +kernel
theorem dX3_add_62 : decode cX3_add 62 = .ok (.aload_n 0, 1) := by decide +kernel
theorem dX3_add_63 : decode cX3_add 63 = .ok (.getfield 9, 3) := by decide +kernel
theorem dX3_add_66 : decode cX3_add 66 = .ok (.iload 5, 2) := by decide +kernel
theorem dX3_add_68 : decode cX3_add 68 = .ok (.iconst 1, 1) := by decide +kernel
theorem dX3_add_69 : decode cX3_add 69 = .ok (.iadd, 1) := by decide +kernel
theorem dX3_add_70 : decode cX3_add 70 = .ok (.iload_n 2, 1) := by decide +kernel
theorem dX3_add_71 : decode cX3_add 71 = .ok (.iastore, 1) := by decide +kernel
theorem dX3_add_72 : decode cX3_add 72 = .ok (.aload_n 0, 1) := by decide +kernel
theorem dX3_add_73 : decode cX3_add 73 = .ok (.getfield 9, 3) := by decide +kernel
theorem dX3_add_76 : decode cX3_add 76 = .ok (.iload 5, 2) := by decide +kernel
theorem dX3_add_78 : decode cX3_add 78 = .ok (.iconst 2, 1) := by decide +kernel
theorem dX3_add_79 : decode cX3_add 79 = .ok (.iadd, 1) := by decide +kernel
theorem dX3_add_80 : decode cX3_add 80 = .ok (.iload_n 3, 1) := by decide +kernel
theorem dX3_add_81 : decode cX3_add 81 = .ok (.iastore, 1) := by decide +kernel
theorem dX3_add_82 : decode cX3_add 82 = .ok (.aload_n 0, 1) := by decide +kernel
theorem dX3_add_83 : decode cX3_add 83 = .ok (.getfield 9, 3) := by decide +kernel
theorem dX3_add_86 : decode cX3_add 86 = .ok (.iload 5, 2) := by decide +kernel
theorem dX3_add_88 : decode cX3_add 88 = .ok (.iconst 3, 1) := by decide +kernel
theorem dX3_add_89 : decode cX3_add 89 = .ok (.iadd, 1) := by decide +kernel
theorem dX3_add_90 : decode cX3_add 90 = .ok (.iload 4, 2) := by decide +kernel
theorem dX3_add_92 : decode cX3_add 92 = .ok (.iastore, 1) := by decide +kernel
theorem dX3_add_93 : decode cX3_add 93 = .ok (.aload_n 0, 1) := by decide +kernel
theorem dX3_add_94 : decode cX3_add 94 = .ok (.dup, 1) := by decide +kernel
theorem dX3_add_95 : decode cX3_add 95 = .ok (.getfield 13, 3) := by decide +kernel
theorem dX3_add_98 : decode cX3_add 98 = .ok (.iconst 1, 1) := by decide +kernel
theorem dX3_add_99 : decode cX3_add 99 = .ok (.iadd, 1) := by decide +kernel
theorem dX3_add_100 : decode cX3_add 100 = .ok (.putfield 13, 3) := by decide +kernel
theorem dX3_add_103 : decode cX3_add 103 = .ok (.aload_n 0, 1) := by decide +kernel
theorem dX3_add_104 : decode cX3_add 104 = .ok (.invokevirtual 56, 3) := by decide +kernel
theorem dX3_add_107 : decode cX3_add 107 = .ok (.aload_n 0, 1) := by decide +kernel
theorem dX3_add_108 : decode cX3_add 108 = .ok (.getfield 13, 3) := by decide +kernel
theorem dX3_add_111 : decode cX3_add 111 = .ok (.iconst 1, 1) := by decide +kernel
theorem dX3_add_112 : decode cX3_add 112 = .ok (.isub, 1) := by decide +kernel
theorem dX3_add_113 : decode cX3_add 113 = .ok (.ireturn, 1) := by decide +kernel
set_option maxRecDepth 20000 in
theorem ggX3_clear_X3_forgetScan : GoodIn wsX3_clear wsX3_forgetScan := goodIn_r _ [6, 7, 8, 9, 10, 11, 12, 13, 14, 15, 16] (by decide +kernel) (by decide +kernel)
set_option maxRecDepth 20000 in
theorem gX3_clear_X3_forgetScan : GoodIn wsX3_clear (wsV RX3 56 RX3 yX3_forgetScan wsX3_forgetScan) := goodIn_app (goodIn_of _ (by decide +kernel)) ggX3_clear_X3_forgetScan
theorem dX3_clear_0 : decode cX3_clear 0 = .ok (.aload_n 0, 1) := by decide +kernel
theorem dX3_clear_1 : decode cX3_clear 1 = .ok (.iconst 0, 1) := by decide +kernel
theorem dX3_clear_2 : decode cX3_clear 2 = .ok (.putfield 13, 3) := by decide +kernel
theorem dX3_clear_5 : decode cX3_clear 5 = .ok (.aload_n 0, 1) := by decide +kernel
theorem dX3_clear_6 : decode cX3_clear 6 = .ok (.invokevirtual 56, 3) := by decide +kernel
theorem dX3_clear_9 : decode cX3_clear 9 = .ok (.return_, 1) := by decide +kernel
theorem dX3_size_0 : decode cX3_size 0 = .ok (.aload_n 0, 1) := by decide +kernel
theorem dX3_size_1 : decode cX3_size 1 = .ok (.getfield 13, 3) := by decide +kernel
theorem dX3_size_4 : decode cX3_size 4 = .ok (.ireturn, 1) := by decide +kernel
set_option maxRecDepth 20000 in
theorem ggX3_code_X3_isInstruction : GoodIn wsX3_code wsX3_isInstruction := goodIn_r _ [6, 7, 8, 9, 10, 11, 12, 13, 14, 15] (by decide +kernel) (by decide +kernel)
set_option maxRecDepth 20000 in
theorem gX3_code_X3_isInstruction : GoodIn wsX3_code (wsV RX3 59 RX3 yX3_isInstruction wsX3_isInstruction) := goodIn_app (goodIn_of _ (by decide +kernel)) ggX3_code_X3_isInstruction
theorem dX3_code_0 : decode cX3_code 0 = .ok (.aload_n 0, 1) := by decide +kernel
theorem dX3_code_1 : decode cX3_code 1 = .ok (.iload_n 1, 1) := by decide +kernel
theorem dX3_code_2 : decode cX3_code 2 = .ok (.invokevirtual 59, 3) := by decide +kernel
theorem dX3_code_5 : decode cX3_code 5 = .ok (.ifCond .eq 12, 3) := by decide +kernel
theorem dX3_code_8 : decode cX3_code 8 = .ok (.iload_n 2, 1) := by decide +kernel
theorem dX3_code_9 : decode cX3_code 9 = .ok (.ifCond .lt 8, 3) := by decide +kernel
theorem dX3_code_12 : decode cX3_code 12 = .ok (.iload_n 2, 1) := by decide +kernel
theorem dX3_code_13 : decode cX3_code 13 = .ok (.iconst 3, 1) := by decide +kernel
theorem dX3_code_14 : decode cX3_code 14 = .ok (.if_icmp .le 6, 3) := by decide +kernel
theorem dX3_code_17 : decode cX3_code 17 = .ok (.bipush (-9), 2) := by decide +kernel
theorem dX3_code_19 : decode cX3_code 19 = .ok (.ireturn, 1) := by decide +kernel
theorem dX3_code_20 : decode cX3_code 20 = .ok (.aload_n 0, 1) := by decide +kernel
theorem dX3_code_21 : decode cX3_code 21 = .ok (.getfield 9, 3) := by decide +kernel
theorem dX3_code_24 : decode cX3_code 24 = .ok (.iload_n 1, 1) := by decide +kernel
theorem dX3_code_25 : decode cX3_code 25 = .ok (.iconst 4, 1) := by decide +kernel
theorem dX3_code_26 : decode cX3_code 26 = .ok (.imul, 1) := by decide +kernel
theorem dX3_code_27 : decode cX3_code 27 = .ok (.iload_n 2, 1) := by decide +kernel
theorem dX3_code_28 : decode cX3_code 28 = .ok (.iadd, 1) := by decide +kernel
theorem dX3_code_29 : decode cX3_code 29 = .ok (.iaload, 1) := by decide +kernel
theorem dX3_code_30 : decode cX3_code 30 = .ok (.ireturn, 1) := by decide +kernel
set_option maxRecDepth 20000 in
theorem ggX3_scan_X3_forgetScan : GoodIn wsX3_scan wsX3_forgetScan := goodIn_r _ [8, 3, 2, 222, 223, 224, 225, 226, 227, 228, 229] (by decide +kernel) (by decide +kernel)
set_option maxRecDepth 20000 in
theorem gX3_scan_X3_forgetScan : GoodIn wsX3_scan (wsV RX3 56 RX3 yX3_forgetScan wsX3_forgetScan) := goodIn_app (goodIn_of _ (by decide +kernel)) ggX3_scan_X3_forgetScan
set_option maxRecDepth 20000 in
theorem ggX3_scan_X3_isWhole : GoodIn wsX3_scan wsX3_isWhole := goodIn_r _ [12, 13, 14, 15, 16, 17, 7, 18, 19, 20, 21, 22, 23, 24, 25, 222, 223, 224, 225, 226, 227, 228, 229] (by decide +kernel) (by decide +kernel)
set_option maxRecDepth 20000 in
theorem gX3_scan_X3_isWhole : GoodIn wsX3_scan (wsV RX3 63 RX3 yX3_isWhole wsX3_isWhole) := goodIn_app (goodIn_of _ (by decide +kernel)) ggX3_scan_X3_isWhole
set_option maxRecDepth 20000 in
theorem ggX3_scan_X2_begin : GoodIn wsX3_scan wsX2_begin := goodIn_r _ [30, 31, 32, 33, 230, 231, 232] (by decide +kernel) (by decide +kernel)
set_option maxRecDepth 20000 in
theorem gX3_scan_X2_begin : GoodIn wsX3_scan (wsV RX3 67 RX2 yX2_begin wsX2_begin) := goodIn_app (goodIn_of _ (by decide +kernel)) ggX3_scan_X2_begin
set_option maxRecDepth 20000 in
theorem ggX3_scan_X3_runRound : GoodIn wsX3_scan wsX3_runRound := goodIn_r _ [37, 13, 1, 38, 39, 40, 29, 41, 31, 42, 43, 44, 7, 45, 46, 14, 47, 48, 49, 50, 51, 52, 53, 54, 55, 56, 57, 58, 59, 60, 61, 62, 63, 64, 65, 66, 32, 67, 68, 69, 70, 33, 71, 72, 73, 74, 75, 76, 77, 78, 79, 80, 81, 82, 83, 84, 85, 86, 87, 88, 89, 90, 91, 92, 93, 94, 95, 96, 97, 98, 99, 100, 101, 102, 103, 104, 105, 106, 107, 108, 109, 110, 111, 112, 113, 114, 115, 116, 117, 118, 119, 120, 121, 122, 123, 124, 125, 126, 127, 128, 129, 130, 131, 132, 133, 134, 135, 136, 137, 138, 139, 140, 141, 142, 143, 144, 145, 146, 147, 148, 149, 150, 151, 152, 153, 154, 155, 156, 157, 158, 159, 160, 161, 162, 163, 164, 165, 166, 167, 168, 169, 170, 171, 172, 173, 174, 175, 176, 177, 178, 179, 180, 181, 182, 183, 184, 185, 186, 187, 188, 189, 190, 191, 192, 193, 194, 222, 223, 224, 225, 226, 227, 228, 229, 230, 231, 232, 233, 234, 235, 236, 237, 238] (by decide +kernel) (by decide +kernel)
set_option maxRecDepth 20000 in
theorem gX3_scan_X3_runRound : GoodIn wsX3_scan (wsV RX3 70 RX3 yX3_runRound wsX3_runRound) := goodIn_app (goodIn_of _ (by decide +kernel)) ggX3_scan_X3_runRound
set_option maxRecDepth 20000 in
theorem ggX3_scan_X3_settle : GoodIn wsX3_scan wsX3_settle := goodIn_r _ [198, 199, 13, 1, 26, 27, 28, 29, 30, 31, 32, 33, 38, 39, 40, 41, 42, 43, 44, 7, 45, 46, 14, 47, 48, 49, 50, 51, 52, 53, 54, 55, 56, 57, 58, 59, 60, 61, 62, 63, 64, 65, 66, 67, 68, 69, 70, 71, 72, 73, 74, 75, 76, 77, 78, 79, 80, 81, 82, 83, 84, 85, 86, 87, 88, 89, 90, 91, 92, 93, 94, 95, 96, 97, 98, 99, 100, 101, 102, 103, 104, 105, 106, 107, 108, 109, 110, 111, 112, 113, 114, 115, 116, 117, 118, 119, 120, 121, 122, 123, 124, 125, 126, 127, 128, 129, 130, 131, 132, 133, 134, 135, 136, 137, 138, 139, 140, 141, 142, 143, 144, 145, 146, 147, 148, 149, 150, 151, 152, 153, 154, 155, 156, 157, 158, 159, 160, 161, 162, 163, 164, 165, 166, 167, 168, 169, 170, 171, 172, 173, 174, 175, 176, 177, 178, 179, 180, 181, 182, 183, 184, 185, 186, 187, 188, 189, 190, 191, 192, 193, 194, 222, 223, 224, 225, 226, 227, 228, 229, 230, 231, 232, 233, 234, 235, 236, 237, 238] (by decide +kernel) (by decide +kernel)
set_option maxRecDepth 20000 in
theorem gX3_scan_X3_settle : GoodIn wsX3_scan (wsV RX3 73 RX3 yX3_settle wsX3_settle) := goodIn_app (goodIn_of _ (by decide +kernel)) ggX3_scan_X3_settle
set_option maxRecDepth 20000 in
theorem ggX3_scan_X3_countAlarms : GoodIn wsX3_scan wsX3_countAlarms := goodIn_r _ [203, 13, 204, 205, 206, 7, 207, 14, 208, 209, 210, 211, 3, 199, 22, 23, 24, 25, 38, 39, 40, 29, 41, 31, 212, 213, 214, 215, 216, 64, 65, 66, 32, 217, 68, 69, 70, 33, 218, 219, 220, 221, 148, 222, 223, 224, 225, 226, 227, 228, 229, 230, 231, 232] (by decide +kernel) (by decide +kernel)
set_option maxRecDepth 20000 in
theorem gX3_scan_X3_countAlarms : GoodIn wsX3_scan (wsV RX3 76 RX3 yX3_countAlarms wsX3_countAlarms) := goodIn_app (goodIn_of _ (by decide +kernel)) ggX3_scan_X3_countAlarms
theorem dX3_scan_0 : decode cX3_scan 0 = .ok (.aload_n 0, 1) := by decide +kernel
theorem dX3_scan_1 : decode cX3_scan 1 = .ok (.invokevirtual 56, 3) := by decide +kernel
theorem dX3_scan_4 : decode cX3_scan 4 = .ok (.aload_n 0, 1) := by decide +kernel
theorem dX3_scan_5 : decode cX3_scan 5 = .ok (.invokevirtual 63, 3) := by decide +kernel
theorem dX3_scan_8 : decode cX3_scan 8 = .ok (.ifCond .ne 5, 3) := by decide +kernel
theorem dX3_scan_11 : decode cX3_scan 11 = .ok (.iconst (-1), 1) := by decide +kernel
theorem dX3_scan_12 : decode cX3_scan 12 = .ok (.ireturn, 1) := by decide +kernel
theorem dX3_scan_13 : decode cX3_scan 13 = .ok (.aload_n 0, 1) := by decide +kernel
theorem dX3_scan_14 : decode cX3_scan 14 = .ok (.getfield 27, 3) := by decide +kernel
theorem dX3_scan_17 : decode cX3_scan 17 = .ok (.invokevirtual 67, 3) := by decide +kernel
theorem dX3_scan_20 : decode cX3_scan 20 = .ok (.iconst 1, 1) := by decide +kernel
theorem dX3_scan_21 : decode cX3_scan 21 = .ok (.istore_n 1, 1) := by decide +kernel
theorem dX3_scan_22 : decode cX3_scan 22 = .ok (.iconst 1, 1) := by decide +kernel
theorem dX3_scan_23 : decode cX3_scan 23 = .ok (.istore_n 2, 1) := by decide +kernel
theorem dX3_scan_24 : decode cX3_scan 24 = .ok (.iload_n 1, 1) := by decide +kernel
theorem dX3_scan_25 : decode cX3_scan 25 = .ok (.ifCond .eq 26, 3) := by decide +kernel
theorem dX3_scan_28 : decode cX3_scan 28 = .ok (.iload_n 2, 1) := by decide +kernel
theorem dX3_scan_29 : decode cX3_scan 29 = .ok (.sipush 10000, 3) := by decide +kernel
theorem dX3_scan_32 : decode cX3_scan 32 = .ok (.if_icmp .gt 19, 3) := by decide +kernel
theorem dX3_scan_35 : decode cX3_scan 35 = .ok (.aload_n 0, 1) := by decide +kernel
theorem dX3_scan_36 : decode cX3_scan 36 = .ok (.invokevirtual 70, 3) := by decide +kernel
theorem dX3_scan_39 : decode cX3_scan 39 = .ok (.istore_n 1, 1) := by decide +kernel
theorem dX3_scan_40 : decode cX3_scan 40 = .ok (.aload_n 0, 1) := by decide +kernel
theorem dX3_scan_41 : decode cX3_scan 41 = .ok (.iload_n 2, 1) := by decide +kernel
theorem dX3_scan_42 : decode cX3_scan 42 = .ok (.putfield 21, 3) := by decide +kernel
theorem dX3_scan_45 : decode cX3_scan 45 = .ok (.iinc 2 1, 3) := by decide +kernel
theorem dX3_scan_48 : decode cX3_scan 48 = .ok (.goto (-24), 3) := by decide +kernel
theorem dX3_scan_51 : decode cX3_scan 51 = .ok (.aload_n 0, 1) := by decide +kernel
theorem dX3_scan_52 : decode cX3_scan 52 = .ok (.invokevirtual 73, 3) := by decide +kernel
theorem dX3_scan_55 : decode cX3_scan 55 = .ok (.aload_n 0, 1) := by decide +kernel
theorem dX3_scan_56 : decode cX3_scan 56 = .ok (.iconst 1, 1) := by decide +kernel
theorem dX3_scan_57 : decode cX3_scan 57 = .ok (.putfield 17, 3) := by decide +kernel
theorem dX3_scan_60 : decode cX3_scan 60 = .ok (.aload_n 0, 1) := by decide +kernel
theorem dX3_scan_61 : decode cX3_scan 61 = .ok (.invokevirtual 76, 3) := by decide +kernel
theorem dX3_scan_64 : decode cX3_scan 64 = .ok (.ireturn, 1) := by decide +kernel
theorem dX3_rounds_0 : decode cX3_rounds 0 = .ok (.aload_n 0, 1) := by decide +kernel
theorem dX3_rounds_1 : decode cX3_rounds 1 = .ok (.getfield 21, 3) := by decide +kernel
theorem dX3_rounds_4 : decode cX3_rounds 4 = .ok (.ireturn, 1) := by decide +kernel
set_option maxRecDepth 20000 in
theorem ggX3_reached_X3_isInstruction : GoodIn wsX3_reached wsX3_isInstruction := goodIn_r _ [7, 8, 15, 16, 17, 18, 19, 20, 21, 22] (by decide +kernel) (by decide +kernel)
set_option maxRecDepth 20000 in
theorem gX3_reached_X3_isInstruction : GoodIn wsX3_reached (wsV RX3 59 RX3 yX3_isInstruction wsX3_isInstruction) := goodIn_app (goodIn_of _ (by decide +kernel)) ggX3_reached_X3_isInstruction
set_option maxRecDepth 20000 in
theorem ggX3_reached_X2_isSomewhere : GoodIn wsX3_reached wsX2_isSomewhere := goodIn_r _ [13, 14, 23, 24, 25] (by decide +kernel) (by decide +kernel)
set_option maxRecDepth 20000 in
theorem gX3_reached_X2_isSomewhere : GoodIn wsX3_reached (wsV RX3 80 RX2 yX2_isSomewhere wsX2_isSomewhere) := goodIn_app (goodIn_of _ (by decide +kernel)) ggX3_reached_X2_isSomewhere
theorem dX3_reached_0 : decode cX3_reached 0 = .ok (.aload_n 0, 1) := by decide +kernel
theorem dX3_reached_1 : decode cX3_reached 1 = .ok (.getfield 17, 3) := by decide +kernel
theorem dX3_reached_4 : decode cX3_reached 4 = .ok (.ifCond .eq 11, 3) := by decide +kernel
theorem dX3_reached_7 : decode cX3_reached 7 = .ok (.aload_n 0, 1) := by decide +kernel
theorem dX3_reached_8 : decode cX3_reached 8 = .ok (.iload_n 1, 1) := by decide +kernel
theorem dX3_reached_9 : decode cX3_reached 9 = .ok (.invokevirtual 59, 3) := by decide +kernel
theorem dX3_reached_12 : decode cX3_reached 12 = .ok (.ifCond .ne 5, 3) := by decide +kernel
theorem dX3_reached_15 : decode cX3_reached 15 = .ok (.iconst (-1), 1) := by decide +kernel
theorem dX3_reached_16 : decode cX3_reached 16 = .ok (.ireturn, 1) := by decide +kernel
theorem dX3_reached_17 : decode cX3_reached 17 = .ok (.aload_n 0, 1) := by decide +kernel
theorem dX3_reached_18 : decode cX3_reached 18 = .ok (.getfield 31, 3) := by decide +kernel
theorem dX3_reached_21 : decode cX3_reached 21 = .ok (.iload_n 1, 1) := by decide +kernel
theorem dX3_reached_22 : decode cX3_reached 22 = .ok (.invokevirtual 80, 3) := by decide +kernel
theorem dX3_reached_25 : decode cX3_reached 25 = .ok (.ifCond .eq 7, 3) := by decide +kernel
theorem dX3_reached_28 : decode cX3_reached 28 = .ok (.iconst 1, 1) := by decide +kernel
theorem dX3_reached_29 : decode cX3_reached 29 = .ok (.goto 4, 3) := by decide +kernel
theorem dX3_reached_32 : decode cX3_reached 32 = .ok (.iconst 0, 1) := by decide +kernel
theorem dX3_reached_33 : decode cX3_reached 33 = .ok (.ireturn, 1) := by decide +kernel
set_option maxRecDepth 20000 in
theorem ggX3_low_X3_reached : GoodIn wsX3_low wsX3_reached := goodIn_r _ [7, 8, 2, 9, 10, 11, 6, 12, 13, 14, 15, 16, 17, 18, 19, 28, 29, 30, 31, 32, 33, 34, 35, 36, 37, 38] (by decide +kernel) (by decide +kernel)
set_option maxRecDepth 20000 in
theorem gX3_low_X3_reached : GoodIn wsX3_low (wsV RX3 83 RX3 yX3_reached wsX3_reached) := goodIn_app (goodIn_of _ (by decide +kernel)) ggX3_low_X3_reached
set_option maxRecDepth 20000 in
theorem ggX3_low_X3_isVariable : GoodIn wsX3_low wsX3_isVariable := goodIn_r _ [22] (by decide +kernel) (by decide +kernel)
set_option maxRecDepth 20000 in
theorem gX3_low_X3_isVariable : GoodIn wsX3_low (va_wsS RX3 87 yX3_isVariable wsX3_isVariable) := goodIn_app (goodIn_of _ (by decide +kernel)) ggX3_low_X3_isVariable
set_option maxRecDepth 20000 in
theorem ggX3_low_X2_lowOf : GoodIn wsX3_low wsX2_lowOf := goodIn_r _ [26, 27, 36, 37, 38] (by decide +kernel) (by decide +kernel)
set_option maxRecDepth 20000 in
theorem gX3_low_X2_lowOf : GoodIn wsX3_low (wsV RX3 92 RX2 yX2_lowOf wsX2_lowOf) := goodIn_app (goodIn_of _ (by decide +kernel)) ggX3_low_X2_lowOf
theorem dX3_low_0 : decode cX3_low 0 = .ok (.aload_n 0, 1) := by decide +kernel
theorem dX3_low_1 : decode cX3_low 1 = .ok (.iload_n 1, 1) := by decide +kernel
theorem dX3_low_2 : decode cX3_low 2 = .ok (.invokevirtual 83, 3) := by decide +kernel
theorem dX3_low_5 : decode cX3_low 5 = .ok (.iconst 1, 1) := by decide +kernel
theorem dX3_low_6 : decode cX3_low 6 = .ok (.if_icmp .ne 10, 3) := by decide +kernel
theorem dX3_low_9 : decode cX3_low 9 = .ok (.iload_n 2, 1) := by decide +kernel
theorem dX3_low_10 : decode cX3_low 10 = .ok (.invokestatic 87, 3) := by decide +kernel
theorem dX3_low_13 : decode cX3_low 13 = .ok (.ifCond .ne 7, 3) := by decide +kernel
theorem dX3_low_16 : decode cX3_low 16 = .ok (.ldc2_w 90, 3) := by decide +kernel
theorem dX3_low_19 : decode cX3_low 19 = .ok (.lreturn, 1) := by decide +kernel
theorem dX3_low_20 : decode cX3_low 20 = .ok (.aload_n 0, 1) := by decide +kernel
theorem dX3_low_21 : decode cX3_low 21 = .ok (.getfield 31, 3) := by decide +kernel
theorem dX3_low_24 : decode cX3_low 24 = .ok (.iload_n 1, 1) := by decide +kernel
theorem dX3_low_25 : decode cX3_low 25 = .ok (.iload_n 2, 1) := by decide +kernel
theorem dX3_low_26 : decode cX3_low 26 = .ok (.invokevirtual 92, 3) := by decide +kernel
theorem dX3_low_29 : decode cX3_low 29 = .ok (.lreturn, 1) := by decide +kernel
set_option maxRecDepth 20000 in
theorem ggX3_high_X3_reached : GoodIn wsX3_high wsX3_reached := goodIn_r _ [7, 8, 2, 9, 10, 11, 6, 12, 13, 14, 15, 16, 17, 18, 19, 28, 29, 30, 31, 32, 33, 34, 35, 36, 37, 38] (by decide +kernel) (by decide +kernel)
set_option maxRecDepth 20000 in
theorem gX3_high_X3_reached : GoodIn wsX3_high (wsV RX3 83 RX3 yX3_reached wsX3_reached) := goodIn_app (goodIn_of _ (by decide +kernel)) ggX3_high_X3_reached
set_option maxRecDepth 20000 in
theorem ggX3_high_X3_isVariable : GoodIn wsX3_high wsX3_isVariable := goodIn_r _ [22] (by decide +kernel) (by decide +kernel)
set_option maxRecDepth 20000 in
theorem gX3_high_X3_isVariable : GoodIn wsX3_high (va_wsS RX3 87 yX3_isVariable wsX3_isVariable) := goodIn_app (goodIn_of _ (by decide +kernel)) ggX3_high_X3_isVariable
set_option maxRecDepth 20000 in
theorem ggX3_high_X2_highOf : GoodIn wsX3_high wsX2_highOf := goodIn_r _ [26, 27, 36, 37, 38] (by decide +kernel) (by decide +kernel)
set_option maxRecDepth 20000 in
theorem gX3_high_X2_highOf : GoodIn wsX3_high (wsV RX3 96 RX2 yX2_highOf wsX2_highOf) := goodIn_app (goodIn_of _ (by decide +kernel)) ggX3_high_X2_highOf
theorem dX3_high_0 : decode cX3_high 0 = .ok (.aload_n 0, 1) := by decide +kernel
theorem dX3_high_1 : decode cX3_high 1 = .ok (.iload_n 1, 1) := by decide +kernel
theorem dX3_high_2 : decode cX3_high 2 = .ok (.invokevirtual 83, 3) := by decide +kernel
theorem dX3_high_5 : decode cX3_high 5 = .ok (.iconst 1, 1) := by decide +kernel
theorem dX3_high_6 : decode cX3_high 6 = .ok (.if_icmp .ne 10, 3) := by decide +kernel
theorem dX3_high_9 : decode cX3_high 9 = .ok (.iload_n 2, 1) := by decide +kernel
theorem dX3_high_10 : decode cX3_high 10 = .ok (.invokestatic 87, 3) := by decide +kernel
theorem dX3_high_13 : decode cX3_high 13 = .ok (.ifCond .ne 7, 3) := by decide +kernel
theorem dX3_high_16 : decode cX3_high 16 = .ok (.ldc2_w 90, 3) := by decide +kernel
theorem dX3_high_19 : decode cX3_high 19 = .ok (.lreturn, 1) := by decide +kernel
theorem dX3_high_20 : decode cX3_high 20 = .ok (.aload_n 0, 1) := by decide +kernel
theorem dX3_high_21 : decode cX3_high 21 = .ok (.getfield 31, 3) := by decide +kernel
theorem dX3_high_24 : decode cX3_high 24 = .ok (.iload_n 1, 1) := by decide +kernel
theorem dX3_high_25 : decode cX3_high 25 = .ok (.iload_n 2, 1) := by decide +kernel
theorem dX3_high_26 : decode cX3_high 26 = .ok (.invokevirtual 96, 3) := by decide +kernel
theorem dX3_high_29 : decode cX3_high 29 = .ok (.lreturn, 1) := by decide +kernel
set_option maxRecDepth 20000 in
theorem ggX3_alarm_X3_reached : GoodIn wsX3_alarm wsX3_reached := goodIn_r _ [6, 7, 8, 9, 10, 11, 5, 12, 13, 14, 15, 16, 17, 18, 19, 39, 40, 41, 42, 43, 44, 45, 46, 47, 48, 49] (by decide +kernel) (by decide +kernel)
set_option maxRecDepth 20000 in
theorem gX3_alarm_X3_reached : GoodIn wsX3_alarm (wsV RX3 83 RX3 yX3_reached wsX3_reached) := goodIn_app (goodIn_of _ (by decide +kernel)) ggX3_alarm_X3_reached
set_option maxRecDepth 20000 in
theorem ggX3_alarm_X3_mayDivideByZero : GoodIn wsX3_alarm wsX3_mayDivideByZero := goodIn_r _ [23, 1, 8, 24, 25, 26, 17, 27, 28, 29, 30, 31, 32, 33, 39, 40, 41, 42, 43, 44, 45, 46, 47, 48, 49] (by decide +kernel) (by decide +kernel)
set_option maxRecDepth 20000 in
theorem gX3_alarm_X3_mayDivideByZero : GoodIn wsX3_alarm (wsV RX3 99 RX3 yX3_mayDivideByZero wsX3_mayDivideByZero) := goodIn_app (goodIn_of _ (by decide +kernel)) ggX3_alarm_X3_mayDivideByZero
set_option maxRecDepth 20000 in
theorem ggX3_alarm_X3_mayLeaveArray : GoodIn wsX3_alarm wsX3_mayLeaveArray := goodIn_r _ [37, 1, 8, 38, 24, 25, 26, 17, 27, 28, 29, 30, 31, 32, 33, 39, 40, 41, 42, 43, 44, 45, 46, 47, 48, 49] (by decide +kernel) (by decide +kernel)
set_option maxRecDepth 20000 in
theorem gX3_alarm_X3_mayLeaveArray : GoodIn wsX3_alarm (wsV RX3 102 RX3 yX3_mayLeaveArray wsX3_mayLeaveArray) := goodIn_app (goodIn_of _ (by decide +kernel)) ggX3_alarm_X3_mayLeaveArray
theorem dX3_alarm_0 : decode cX3_alarm 0 = .ok (.aload_n 0, 1) := by decide +kernel
theorem dX3_alarm_1 : decode cX3_alarm 1 = .ok (.iload_n 1, 1) := by decide +kernel
theorem dX3_alarm_2 : decode cX3_alarm 2 = .ok (.invokevirtual 83, 3) := by decide +kernel
theorem dX3_alarm_5 : decode cX3_alarm 5 = .ok (.iconst 1, 1) := by decide +kernel
theorem dX3_alarm_6 : decode cX3_alarm 6 = .ok (.if_icmp .eq 5, 3) := by decide +kernel
theorem dX3_alarm_9 : decode cX3_alarm 9 = .ok (.iconst 0, 1) := by decide +kernel
theorem dX3_alarm_10 : decode cX3_alarm 10 = .ok (.ireturn, 1) := by decide +kernel
theorem dX3_alarm_11 : decode cX3_alarm 11 = .ok (.aload_n 0, 1) := by decide +kernel
theorem dX3_alarm_12 : decode cX3_alarm 12 = .ok (.getfield 9, 3) := by decide +kernel
theorem dX3_alarm_15 : decode cX3_alarm 15 = .ok (.iload_n 1, 1) := by decide +kernel
theorem dX3_alarm_16 : decode cX3_alarm 16 = .ok (.iconst 4, 1) := by decide +kernel
theorem dX3_alarm_17 : decode cX3_alarm 17 = .ok (.imul, 1) := by decide +kernel
theorem dX3_alarm_18 : decode cX3_alarm 18 = .ok (.iconst 0, 1) := by decide +kernel
theorem dX3_alarm_19 : decode cX3_alarm 19 = .ok (.iadd, 1) := by decide +kernel
theorem dX3_alarm_20 : decode cX3_alarm 20 = .ok (.iaload, 1) := by decide +kernel
theorem dX3_alarm_21 : decode cX3_alarm 21 = .ok (.tableswitch 55 6 8 #[27, 41, 41], 27) := by decide +kernel
theorem dX3_alarm_48 : decode cX3_alarm 48 = .ok (.aload_n 0, 1) := by decide +kernel
theorem dX3_alarm_49 : decode cX3_alarm 49 = .ok (.iload_n 1, 1) := by decide +kernel
theorem dX3_alarm_50 : decode cX3_alarm 50 = .ok (.invokevirtual 99, 3) := by decide +kernel
theorem dX3_alarm_53 : decode cX3_alarm 53 = .ok (.ifCond .eq 7, 3) := by decide +kernel
theorem dX3_alarm_56 : decode cX3_alarm 56 = .ok (.iconst 1, 1) := by decide +kernel
theorem dX3_alarm_57 : decode cX3_alarm 57 = .ok (.goto 4, 3) := by decide +kernel
theorem dX3_alarm_60 : decode cX3_alarm 60 = .ok (.iconst 0, 1) := by decide +kernel
theorem dX3_alarm_61 : decode cX3_alarm 61 = .ok (.ireturn, 1) := by decide +kernel
theorem dX3_alarm_62 : decode cX3_alarm 62 = .ok (.aload_n 0, 1) := by decide +kernel
theorem dX3_alarm_63 : decode cX3_alarm 63 = .ok (.iload_n 1, 1) := by decide +kernel
theorem dX3_alarm_64 : decode cX3_alarm 64 = .ok (.invokevirtual 102, 3) := by decide +kernel
theorem dX3_alarm_67 : decode cX3_alarm 67 = .ok (.ifCond .eq 7, 3) := by decide +kernel
theorem dX3_alarm_70 : decode cX3_alarm 70 = .ok (.iconst 2, 1) := by decide +kernel
theorem dX3_alarm_71 : decode cX3_alarm 71 = .ok (.goto 4, 3) := by decide +kernel
theorem dX3_alarm_74 : decode cX3_alarm 74 = .ok (.iconst 0, 1) := by decide +kernel
theorem dX3_alarm_75 : decode cX3_alarm 75 = .ok (.ireturn, 1) := by decide +kernel
theorem dX3_alarm_76 : decode cX3_alarm 76 = .ok (.iconst 0, 1) := by decide +kernel
theorem dX3_alarm_77 : decode cX3_alarm 77 = .ok (.ireturn, 1) := by decide +kernel
theorem dX3_isVariable_0 : decode cX3_isVariable 0 = .ok (.iload_n 0, 1) := by decide +kernel
theorem dX3_isVariable_1 : decode cX3_isVariable 1 = .ok (.ifCond .lt 12, 3) := by decide +kernel
theorem dX3_isVariable_4 : decode cX3_isVariable 4 = .ok (.iload_n 0, 1) := by decide +kernel
theorem dX3_isVariable_5 : decode cX3_isVariable 5 = .ok (.iconst 4, 1) := by decide +kernel
theorem dX3_isVariable_6 : decode cX3_isVariable 6 = .ok (.if_icmp .ge 7, 3) := by decide +kernel
theorem dX3_isVariable_9 : decode cX3_isVariable 9 = .ok (.iconst 1, 1) := by decide +kernel
theorem dX3_isVariable_10 : decode cX3_isVariable 10 = .ok (.goto 4, 3) := by decide +kernel
theorem dX3_isVariable_13 : decode cX3_isVariable 13 = .ok (.iconst 0, 1) := by decide +kernel
theorem dX3_isVariable_14 : decode cX3_isVariable 14 = .ok (.ireturn, 1) := by decide +kernel
theorem dX3_isInstruction_0 : decode cX3_isInstruction 0 = .ok (.iload_n 1, 1) := by decide +kernel
theorem dX3_isInstruction_1 : decode cX3_isInstruction 1 = .ok (.ifCond .lt 15, 3) := by decide +kernel
theorem dX3_isInstruction_4 : decode cX3_isInstruction 4 = .ok (.iload_n 1, 1) := by decide +kernel
theorem dX3_isInstruction_5 : decode cX3_isInstruction 5 = .ok (.aload_n 0, 1) := by decide +kernel
theorem dX3_isInstruction_6 : decode cX3_isInstruction 6 = .ok (.getfield 13, 3) := by decide +kernel
theorem dX3_isInstruction_9 : decode cX3_isInstruction 9 = .ok (.if_icmp .ge 7, 3) := by decide +kernel
theorem dX3_isInstruction_12 : decode cX3_isInstruction 12 = .ok (.iconst 1, 1) := by decide +kernel
theorem dX3_isInstruction_13 : decode cX3_isInstruction 13 = .ok (.goto 4, 3) := by decide +kernel
theorem dX3_isInstruction_16 : decode cX3_isInstruction 16 = .ok (.iconst 0, 1) := by decide +kernel
theorem dX3_isInstruction_17 : decode cX3_isInstruction 17 = .ok (.ireturn, 1) := by decide +kernel
set_option maxRecDepth 20000 in
theorem ggX3_areVariablesRight_X3_isVariable : GoodIn wsX3_areVariablesRight wsX3_isVariable := goodIn_r _ [4] (by decide +kernel) (by decide +kernel)
set_option maxRecDepth 20000 in
theorem gX3_areVariablesRight_X3_isVariable : GoodIn wsX3_areVariablesRight (va_wsS RX3 87 yX3_isVariable wsX3_isVariable) := goodIn_app (goodIn_of _ (by decide +kernel)) ggX3_areVariablesRight_X3_isVariable
theorem dX3_areVariablesRight_0 : decode cX3_areVariablesRight 0 = .ok (.iload_n 0, 1) := by decide +kernel
theorem dX3_areVariablesRight_1 : decode cX3_areVariablesRight 1 = .ok (.iconst 1, 1) := by decide +kernel
theorem dX3_areVariablesRight_2 : decode cX3_areVariablesRight 2 = .ok (.if_icmp .lt 9, 3) := by decide +kernel
theorem dX3_areVariablesRight_5 : decode cX3_areVariablesRight 5 = .ok (.iload_n 0, 1) := by decide +kernel
theorem dX3_areVariablesRight_6 : decode cX3_areVariablesRight 6 = .ok (.bipush 9, 2) := by decide +kernel
theorem dX3_areVariablesRight_8 : decode cX3_areVariablesRight 8 = .ok (.if_icmp .le 9, 3) := by decide +kernel
theorem dX3_areVariablesRight_11 : decode cX3_areVariablesRight 11 = .ok (.iload_n 0, 1) := by decide +kernel
theorem dX3_areVariablesRight_12 : decode cX3_areVariablesRight 12 = .ok (.bipush 11, 2) := by decide +kernel
theorem dX3_areVariablesRight_14 : decode cX3_areVariablesRight 14 = .ok (.if_icmp .ne 7, 3) := by decide +kernel
theorem dX3_areVariablesRight_17 : decode cX3_areVariablesRight 17 = .ok (.iconst 1, 1) := by decide +kernel
theorem dX3_areVariablesRight_18 : decode cX3_areVariablesRight 18 = .ok (.goto 4, 3) := by decide +kernel
theorem dX3_areVariablesRight_21 : decode cX3_areVariablesRight 21 = .ok (.iconst 0, 1) := by decide +kernel
theorem dX3_areVariablesRight_22 : decode cX3_areVariablesRight 22 = .ok (.istore 4, 2) := by decide +kernel
theorem dX3_areVariablesRight_24 : decode cX3_areVariablesRight 24 = .ok (.iload_n 0, 1) := by decide +kernel
theorem dX3_areVariablesRight_25 : decode cX3_areVariablesRight 25 = .ok (.iconst 2, 1) := by decide +kernel
theorem dX3_areVariablesRight_26 : decode cX3_areVariablesRight 26 = .ok (.if_icmp .lt 13, 3) := by decide +kernel
theorem dX3_areVariablesRight_29 : decode cX3_areVariablesRight 29 = .ok (.iload_n 0, 1) := by decide +kernel
theorem dX3_areVariablesRight_30 : decode cX3_areVariablesRight 30 = .ok (.bipush 9, 2) := by decide +kernel
theorem dX3_areVariablesRight_32 : decode cX3_areVariablesRight 32 = .ok (.if_icmp .gt 7, 3) := by decide +kernel
theorem dX3_areVariablesRight_35 : decode cX3_areVariablesRight 35 = .ok (.iconst 1, 1) := by decide +kernel
theorem dX3_areVariablesRight_36 : decode cX3_areVariablesRight 36 = .ok (.goto 4, 3) := by decide +kernel
theorem dX3_areVariablesRight_39 : decode cX3_areVariablesRight 39 = .ok (.iconst 0, 1) := by decide +kernel
theorem dX3_areVariablesRight_40 : decode cX3_areVariablesRight 40 = .ok (.istore 5, 2) := by decide +kernel
theorem dX3_areVariablesRight_42 : decode cX3_areVariablesRight 42 = .ok (.iload_n 0, 1) := by decide +kernel
theorem dX3_areVariablesRight_43 : decode cX3_areVariablesRight 43 = .ok (.iconst 3, 1) := by decide +kernel
theorem dX3_areVariablesRight_44 : decode cX3_areVariablesRight 44 = .ok (.if_icmp .lt 13, 3) := by decide +kernel
theorem dX3_areVariablesRight_47 : decode cX3_areVariablesRight 47 = .ok (.iload_n 0, 1) := by decide +kernel
theorem dX3_areVariablesRight_48 : decode cX3_areVariablesRight 48 = .ok (.bipush 6, 2) := by decide +kernel
theorem dX3_areVariablesRight_50 : decode cX3_areVariablesRight 50 = .ok (.if_icmp .gt 7, 3) := by decide +kernel
theorem dX3_areVariablesRight_53 : decode cX3_areVariablesRight 53 = .ok (.iconst 1, 1) := by decide +kernel
theorem dX3_areVariablesRight_54 : decode cX3_areVariablesRight 54 = .ok (.goto 4, 3) := by decide +kernel
theorem dX3_areVariablesRight_57 : decode cX3_areVariablesRight 57 = .ok (.iconst 0, 1) := by decide +kernel
theorem dX3_areVariablesRight_58 : decode cX3_areVariablesRight 58 = .ok (.istore 6, 2) := by decide +kernel
theorem dX3_areVariablesRight_60 : decode cX3_areVariablesRight 60 = .ok (.iload 4, 2) := by decide +kernel
theorem dX3_areVariablesRight_62 : decode cX3_areVariablesRight 62 = .ok (.ifCond .eq 10, 3) := by decide +kernel
theorem dX3_areVariablesRight_65 : decode cX3_areVariablesRight 65 = .ok (.iload_n 1, 1) := by decide +kernel
theorem dX3_areVariablesRight_66 : decode cX3_areVariablesRight 66 = .ok (.invokestatic 87, 3) := by decide +kernel
theorem dX3_areVariablesRight_69 : decode cX3_areVariablesRight 69 = .ok (.ifCond .eq 31, 3) := by decide +kernel
theorem dX3_areVariablesRight_72 : decode cX3_areVariablesRight 72 = .ok (.iload 5, 2) := by decide +kernel
theorem dX3_areVariablesRight_74 : decode cX3_areVariablesRight 74 = .ok (.ifCond .eq 10, 3) := by decide +kernel
theorem dX3_areVariablesRight_77 : decode cX3_areVariablesRight 77 = .ok (.iload_n 2, 1) := by decide +kernel
theorem dX3_areVariablesRight_78 : decode cX3_areVariablesRight 78 = .ok (.invokestatic 87, 3) := by decide +kernel
theorem dX3_areVariablesRight_81 : decode cX3_areVariablesRight 81 = .ok (.ifCond .eq 19, 3) := by decide +kernel
theorem dX3_areVariablesRight_84 : decode cX3_areVariablesRight 84 = .ok (.iload 6, 2) := by decide +kernel
theorem dX3_areVariablesRight_86 : decode cX3_areVariablesRight 86 = .ok (.ifCond .eq 10, 3) := by decide +kernel
theorem dX3_areVariablesRight_89 : decode cX3_areVariablesRight 89 = .ok (.iload_n 3, 1) := by decide +kernel
theorem dX3_areVariablesRight_90 : decode cX3_areVariablesRight 90 = .ok (.invokestatic 87, 3) := by decide +kernel
theorem dX3_areVariablesRight_93 : decode cX3_areVariablesRight 93 = .ok (.ifCond .eq 7, 3) := by decide +kernel
theorem dX3_areVariablesRight_96 : decode cX3_areVariablesRight 96 = .ok (.iconst 1, 1) := by decide +kernel
theorem dX3_areVariablesRight_97 : decode cX3_areVariablesRight 97 = .ok (.goto 4, 3) := by decide +kernel
theorem dX3_areVariablesRight_100 : decode cX3_areVariablesRight 100 = .ok (.iconst 0, 1) := by decide +kernel
theorem dX3_areVariablesRight_101 : decode cX3_areVariablesRight 101 = .ok (.ireturn, 1) := by decide +kernel
set_option maxRecDepth 20000 in
theorem ggX3_isPlaceRight_X3_goesOnAtC : GoodIn wsX3_isPlaceRight wsX3_goesOnAtC := goodIn_r _ [4] (by decide +kernel) (by decide +kernel)
set_option maxRecDepth 20000 in
theorem gX3_isPlaceRight_X3_goesOnAtC : GoodIn wsX3_isPlaceRight (va_wsS RX3 105 yX3_goesOnAtC wsX3_goesOnAtC) := goodIn_app (goodIn_of _ (by decide +kernel)) ggX3_isPlaceRight_X3_goesOnAtC
theorem dX3_isPlaceRight_0 : decode cX3_isPlaceRight 0 = .ok (.iload_n 0, 1) := by decide +kernel
theorem dX3_isPlaceRight_1 : decode cX3_isPlaceRight 1 = .ok (.invokestatic 105, 3) := by decide +kernel
theorem dX3_isPlaceRight_4 : decode cX3_isPlaceRight 4 = .ok (.ifCond .eq 13, 3) := by decide +kernel
theorem dX3_isPlaceRight_7 : decode cX3_isPlaceRight 7 = .ok (.iload_n 1, 1) := by decide +kernel
theorem dX3_isPlaceRight_8 : decode cX3_isPlaceRight 8 = .ok (.ifCond .lt 13, 3) := by decide +kernel
theorem dX3_isPlaceRight_11 : decode cX3_isPlaceRight 11 = .ok (.iload_n 1, 1) := by decide +kernel
theorem dX3_isPlaceRight_12 : decode cX3_isPlaceRight 12 = .ok (.bipush 24, 2) := by decide +kernel
theorem dX3_isPlaceRight_14 : decode cX3_isPlaceRight 14 = .ok (.if_icmp .ge 7, 3) := by decide +kernel
theorem dX3_isPlaceRight_17 : decode cX3_isPlaceRight 17 = .ok (.iconst 1, 1) := by decide +kernel
theorem dX3_isPlaceRight_18 : decode cX3_isPlaceRight 18 = .ok (.goto 4, 3) := by decide +kernel
theorem dX3_isPlaceRight_21 : decode cX3_isPlaceRight 21 = .ok (.iconst 0, 1) := by decide +kernel
theorem dX3_isPlaceRight_22 : decode cX3_isPlaceRight 22 = .ok (.ireturn, 1) := by decide +kernel
theorem dX3_goesOnAtC_0 : decode cX3_goesOnAtC 0 = .ok (.iload_n 0, 1) := by decide +kernel
theorem dX3_goesOnAtC_1 : decode cX3_goesOnAtC 1 = .ok (.bipush 9, 2) := by decide +kernel
theorem dX3_goesOnAtC_3 : decode cX3_goesOnAtC 3 = .ok (.if_icmp .eq 9, 3) := by decide +kernel
theorem dX3_goesOnAtC_6 : decode cX3_goesOnAtC 6 = .ok (.iload_n 0, 1) := by decide +kernel
theorem dX3_goesOnAtC_7 : decode cX3_goesOnAtC 7 = .ok (.bipush 10, 2) := by decide +kernel
theorem dX3_goesOnAtC_9 : decode cX3_goesOnAtC 9 = .ok (.if_icmp .ne 7, 3) := by decide +kernel
theorem dX3_goesOnAtC_12 : decode cX3_goesOnAtC 12 = .ok (.iconst 1, 1) := by decide +kernel
theorem dX3_goesOnAtC_13 : decode cX3_goesOnAtC 13 = .ok (.goto 4, 3) := by decide +kernel
theorem dX3_goesOnAtC_16 : decode cX3_goesOnAtC 16 = .ok (.iconst 0, 1) := by decide +kernel
theorem dX3_goesOnAtC_17 : decode cX3_goesOnAtC 17 = .ok (.ireturn, 1) := by decide +kernel
theorem dX3_forgetScan_0 : decode cX3_forgetScan 0 = .ok (.aload_n 0, 1) := by decide +kernel
theorem dX3_forgetScan_1 : decode cX3_forgetScan 1 = .ok (.iconst 0, 1) := by decide +kernel
theorem dX3_forgetScan_2 : decode cX3_forgetScan 2 = .ok (.putfield 17, 3) := by decide +kernel
theorem dX3_forgetScan_5 : decode cX3_forgetScan 5 = .ok (.aload_n 0, 1) := by decide +kernel
theorem dX3_forgetScan_6 : decode cX3_forgetScan 6 = .ok (.iconst 0, 1) := by decide +kernel
theorem dX3_forgetScan_7 : decode cX3_forgetScan 7 = .ok (.putfield 21, 3) := by decide +kernel
theorem dX3_forgetScan_10 : decode cX3_forgetScan 10 = .ok (.return_, 1) := by decide +kernel
set_option maxRecDepth 20000 in
theorem ggX3_isWhole_X3_areAllPlacesInside : GoodIn wsX3_isWhole wsX3_areAllPlacesInside := goodIn_r _ [7, 1, 2, 8, 9, 6, 10, 11, 12, 13, 14, 15, 16, 17, 18, 19, 20, 21, 22] (by decide +kernel) (by decide +kernel)
set_option maxRecDepth 20000 in
theorem gX3_isWhole_X3_areAllPlacesInside : GoodIn wsX3_isWhole (wsV RX3 108 RX3 yX3_areAllPlacesInside wsX3_areAllPlacesInside) := goodIn_app (goodIn_of _ (by decide +kernel)) ggX3_isWhole_X3_areAllPlacesInside
theorem dX3_isWhole_0 : decode cX3_isWhole 0 = .ok (.aload_n 0, 1) := by decide +kernel
theorem dX3_isWhole_1 : decode cX3_isWhole 1 = .ok (.getfield 13, 3) := by decide +kernel
theorem dX3_isWhole_4 : decode cX3_isWhole 4 = .ok (.ifCond .ne 5, 3) := by decide +kernel
theorem dX3_isWhole_7 : decode cX3_isWhole 7 = .ok (.iconst 0, 1) := by decide +kernel
theorem dX3_isWhole_8 : decode cX3_isWhole 8 = .ok (.ireturn, 1) := by decide +kernel
theorem dX3_isWhole_9 : decode cX3_isWhole 9 = .ok (.aload_n 0, 1) := by decide +kernel
theorem dX3_isWhole_10 : decode cX3_isWhole 10 = .ok (.getfield 9, 3) := by decide +kernel
theorem dX3_isWhole_13 : decode cX3_isWhole 13 = .ok (.aload_n 0, 1) := by decide +kernel
