theorem dX4_init_0 : decode cX4_init 0 = .ok (.aload_n 0, 1) := by decide +kernel
theorem dX4_init_1 : decode cX4_init 1 = .ok (.invokespecial 1, 3) := by decide +kernel
theorem dX4_init_4 : decode cX4_init 4 = .ok (.aload_n 0, 1) := by decide +kernel
theorem dX4_init_5 : decode cX4_init 5 = .ok (.bipush 96, 2) := by decide +kernel
theorem dX4_init_7 : decode cX4_init 7 = .ok (.newarray .int, 2) := by decide +kernel
theorem dX4_init_9 : decode cX4_init 9 = .ok (.putfield 7, 3) := by decide +kernel
theorem dX4_init_12 : decode cX4_init 12 = .ok (.aload_n 0, 1) := by decide +kernel
theorem dX4_init_13 : decode cX4_init 13 = .ok (.bipush 24, 2) := by decide +kernel
theorem dX4_init_15 : decode cX4_init 15 = .ok (.newarray .boolean, 2) := by decide +kernel
theorem dX4_init_17 : decode cX4_init 17 = .ok (.putfield 13, 3) := by decide +kernel
theorem dX4_init_20 : decode cX4_init 20 = .ok (.aload_n 0, 1) := by decide +kernel
theorem dX4_init_21 : decode cX4_init 21 = .ok (.bipush 96, 2) := by decide +kernel
theorem dX4_init_23 : decode cX4_init 23 = .ok (.newarray .long, 2) := by decide +kernel
theorem dX4_init_25 : decode cX4_init 25 = .ok (.putfield 17, 3) := by decide +kernel
theorem dX4_init_28 : decode cX4_init 28 = .ok (.aload_n 0, 1) := by decide +kernel
theorem dX4_init_29 : decode cX4_init 29 = .ok (.bipush 96, 2) := by decide +kernel
theorem dX4_init_31 : decode cX4_init 31 = .ok (.newarray .long, 2) := by decide +kernel
theorem dX4_init_33 : decode cX4_init 33 = .ok (.putfield 21, 3) := by decide +kernel
theorem dX4_init_36 : decode cX4_init 36 = .ok (.aload_n 0, 1) := by decide +kernel
theorem dX4_init_37 : decode cX4_init 37 = .ok (.bipush 24, 2) := by decide +kernel
theorem dX4_init_39 : decode cX4_init 39 = .ok (.newarray .boolean, 2) := by decide +kernel
theorem dX4_init_41 : decode cX4_init 41 = .ok (.putfield 24, 3) := by decide +kernel
theorem dX4_init_44 : decode cX4_init 44 = .ok (.aload_n 0, 1) := by decide +kernel
theorem dX4_init_45 : decode cX4_init 45 = .ok (.bipush 96, 2) := by decide +kernel
theorem dX4_init_47 : decode cX4_init 47 = .ok (.newarray .long, 2) := by decide +kernel
theorem dX4_init_49 : decode cX4_init 49 = .ok (.putfield 27, 3) := by decide +kernel
theorem dX4_init_52 : decode cX4_init 52 = .ok (.aload_n 0, 1) := by decide +kernel
theorem dX4_init_53 : decode cX4_init 53 = .ok (.bipush 96, 2) := by decide +kernel
theorem dX4_init_55 : decode cX4_init 55 = .ok (.newarray .long, 2) := by decide +kernel
theorem dX4_init_57 : decode cX4_init 57 = .ok (.putfield 30, 3) := by decide +kernel
theorem dX4_init_60 : decode cX4_init 60 = .ok (.aload_n 0, 1) := by decide +kernel
theorem dX4_init_61 : decode cX4_init 61 = .ok (.iconst 2, 1) := by decide +kernel
theorem dX4_init_62 : decode cX4_init 62 = .ok (.newarray .boolean, 2) := by decide +kernel
theorem dX4_init_64 : decode cX4_init 64 = .ok (.putfield 33, 3) := by decide +kernel
theorem dX4_init_67 : decode cX4_init 67 = .ok (.aload_n 0, 1) := by decide +kernel
theorem dX4_init_68 : decode cX4_init 68 = .ok (.bipush 8, 2) := by decide +kernel
theorem dX4_init_70 : decode cX4_init 70 = .ok (.newarray .long, 2) := by decide +kernel
theorem dX4_init_72 : decode cX4_init 72 = .ok (.putfield 36, 3) := by decide +kernel
theorem dX4_init_75 : decode cX4_init 75 = .ok (.aload_n 0, 1) := by decide +kernel
theorem dX4_init_76 : decode cX4_init 76 = .ok (.bipush 8, 2) := by decide +kernel
theorem dX4_init_78 : decode cX4_init 78 = .ok (.newarray .long, 2) := by decide +kernel
theorem dX4_init_80 : decode cX4_init 80 = .ok (.putfield 39, 3) := by decide +kernel
theorem dX4_init_83 : decode cX4_init 83 = .ok (.aload_n 0, 1) := by decide +kernel
theorem dX4_init_84 : decode cX4_init 84 = .ok (.iconst 0, 1) := by decide +kernel
theorem dX4_init_85 : decode cX4_init 85 = .ok (.putfield 42, 3) := by decide +kernel
theorem dX4_init_88 : decode cX4_init 88 = .ok (.return_, 1) := by decide +kernel
theorem dX4_within_0 : decode cX4_within 0 = .ok (.iload_n 0, 1) := by decide +kernel
theorem dX4_within_1 : decode cX4_within 1 = .ok (.ifCond .lt 12, 3) := by decide +kernel
theorem dX4_within_4 : decode cX4_within 4 = .ok (.iload_n 0, 1) := by decide +kernel
theorem dX4_within_5 : decode cX4_within 5 = .ok (.iload_n 1, 1) := by decide +kernel
theorem dX4_within_6 : decode cX4_within 6 = .ok (.if_icmp .gt 7, 3) := by decide +kernel
theorem dX4_within_9 : decode cX4_within 9 = .ok (.iconst 1, 1) := by decide +kernel
theorem dX4_within_10 : decode cX4_within 10 = .ok (.goto 4, 3) := by decide +kernel
theorem dX4_within_13 : decode cX4_within 13 = .ok (.iconst 0, 1) := by decide +kernel
theorem dX4_within_14 : decode cX4_within 14 = .ok (.ireturn, 1) := by decide +kernel
set_option maxRecDepth 20000 in
theorem ggX4_fits_X4_within : GoodIn wsX4_fits wsX4_within := goodIn_r _ [4] (by decide +kernel) (by decide +kernel)
set_option maxRecDepth 20000 in
theorem gX4_fits_X4_within : GoodIn wsX4_fits (va_wsS RX4 46 yX4_within wsX4_within) := goodIn_app (goodIn_of _ (by decide +kernel)) ggX4_fits_X4_within
theorem dX4_fits_0 : decode cX4_fits 0 = .ok (.iload_n 0, 1) := by decide +kernel
theorem dX4_fits_1 : decode cX4_fits 1 = .ok (.bipush 11, 2) := by decide +kernel
theorem dX4_fits_3 : decode cX4_fits 3 = .ok (.invokestatic 46, 3) := by decide +kernel
theorem dX4_fits_6 : decode cX4_fits 6 = .ok (.ifCond .ne 5, 3) := by decide +kernel
theorem dX4_fits_9 : decode cX4_fits 9 = .ok (.iconst 0, 1) := by decide +kernel
theorem dX4_fits_10 : decode cX4_fits 10 = .ok (.ireturn, 1) := by decide +kernel
theorem dX4_fits_11 : decode cX4_fits 11 = .ok (.iload_n 0, 1) := by decide +kernel
theorem dX4_fits_12 : decode cX4_fits 12 = .ok (.ifCond .eq 19, 3) := by decide +kernel
theorem dX4_fits_15 : decode cX4_fits 15 = .ok (.iload_n 0, 1) := by decide +kernel
theorem dX4_fits_16 : decode cX4_fits 16 = .ok (.bipush 10, 2) := by decide +kernel
theorem dX4_fits_18 : decode cX4_fits 18 = .ok (.if_icmp .eq 13, 3) := by decide +kernel
theorem dX4_fits_21 : decode cX4_fits 21 = .ok (.iload_n 1, 1) := by decide +kernel
theorem dX4_fits_22 : decode cX4_fits 22 = .ok (.iconst 3, 1) := by decide +kernel
theorem dX4_fits_23 : decode cX4_fits 23 = .ok (.invokestatic 46, 3) := by decide +kernel
theorem dX4_fits_26 : decode cX4_fits 26 = .ok (.ifCond .ne 5, 3) := by decide +kernel
theorem dX4_fits_29 : decode cX4_fits 29 = .ok (.iconst 0, 1) := by decide +kernel
theorem dX4_fits_30 : decode cX4_fits 30 = .ok (.ireturn, 1) := by decide +kernel
theorem dX4_fits_31 : decode cX4_fits 31 = .ok (.iload_n 0, 1) := by decide +kernel
theorem dX4_fits_32 : decode cX4_fits 32 = .ok (.iconst 2, 1) := by decide +kernel
theorem dX4_fits_33 : decode cX4_fits 33 = .ok (.if_icmp .lt 19, 3) := by decide +kernel
theorem dX4_fits_36 : decode cX4_fits 36 = .ok (.iload_n 0, 1) := by decide +kernel
theorem dX4_fits_37 : decode cX4_fits 37 = .ok (.bipush 9, 2) := by decide +kernel
theorem dX4_fits_39 : decode cX4_fits 39 = .ok (.if_icmp .gt 13, 3) := by decide +kernel
theorem dX4_fits_42 : decode cX4_fits 42 = .ok (.iload_n 2, 1) := by decide +kernel
theorem dX4_fits_43 : decode cX4_fits 43 = .ok (.iconst 3, 1) := by decide +kernel
theorem dX4_fits_44 : decode cX4_fits 44 = .ok (.invokestatic 46, 3) := by decide +kernel
theorem dX4_fits_47 : decode cX4_fits 47 = .ok (.ifCond .ne 5, 3) := by decide +kernel
theorem dX4_fits_50 : decode cX4_fits 50 = .ok (.iconst 0, 1) := by decide +kernel
theorem dX4_fits_51 : decode cX4_fits 51 = .ok (.ireturn, 1) := by decide +kernel
theorem dX4_fits_52 : decode cX4_fits 52 = .ok (.iload_n 0, 1) := by decide +kernel
theorem dX4_fits_53 : decode cX4_fits 53 = .ok (.iconst 3, 1) := by decide +kernel
theorem dX4_fits_54 : decode cX4_fits 54 = .ok (.if_icmp .lt 19, 3) := by decide +kernel
theorem dX4_fits_57 : decode cX4_fits 57 = .ok (.iload_n 0, 1) := by decide +kernel
theorem dX4_fits_58 : decode cX4_fits 58 = .ok (.bipush 6, 2) := by decide +kernel
theorem dX4_fits_60 : decode cX4_fits 60 = .ok (.if_icmp .gt 13, 3) := by decide +kernel
theorem dX4_fits_63 : decode cX4_fits 63 = .ok (.iload_n 3, 1) := by decide +kernel
theorem dX4_fits_64 : decode cX4_fits 64 = .ok (.iconst 3, 1) := by decide +kernel
theorem dX4_fits_65 : decode cX4_fits 65 = .ok (.invokestatic 46, 3) := by decide +kernel
theorem dX4_fits_68 : decode cX4_fits 68 = .ok (.ifCond .ne 5, 3) := by decide +kernel
theorem dX4_fits_71 : decode cX4_fits 71 = .ok (.iconst 0, 1) := by decide +kernel
theorem dX4_fits_72 : decode cX4_fits 72 = .ok (.ireturn, 1) := by decide +kernel
theorem dX4_fits_73 : decode cX4_fits 73 = .ok (.iload_n 0, 1) := by decide +kernel
theorem dX4_fits_74 : decode cX4_fits 74 = .ok (.bipush 9, 2) := by decide +kernel
theorem dX4_fits_76 : decode cX4_fits 76 = .ok (.if_icmp .eq 9, 3) := by decide +kernel
theorem dX4_fits_79 : decode cX4_fits 79 = .ok (.iload_n 0, 1) := by decide +kernel
theorem dX4_fits_80 : decode cX4_fits 80 = .ok (.bipush 10, 2) := by decide +kernel
theorem dX4_fits_82 : decode cX4_fits 82 = .ok (.if_icmp .ne 12, 3) := by decide +kernel
theorem dX4_fits_85 : decode cX4_fits 85 = .ok (.iload_n 3, 1) := by decide +kernel
theorem dX4_fits_86 : decode cX4_fits 86 = .ok (.bipush 23, 2) := by decide +kernel
theorem dX4_fits_88 : decode cX4_fits 88 = .ok (.invokestatic 46, 3) := by decide +kernel
theorem dX4_fits_91 : decode cX4_fits 91 = .ok (.ifCond .eq 7, 3) := by decide +kernel
theorem dX4_fits_94 : decode cX4_fits 94 = .ok (.iconst 1, 1) := by decide +kernel
theorem dX4_fits_95 : decode cX4_fits 95 = .ok (.goto 4, 3) := by decide +kernel
theorem dX4_fits_98 : decode cX4_fits 98 = .ok (.iconst 0, 1) := by decide +kernel
theorem dX4_fits_99 : decode cX4_fits 99 = .ok (.ireturn, 1) := by decide +kernel
set_option maxRecDepth 20000 in
theorem ggX4_add_X4_fits : GoodIn wsX4_add wsX4_fits := goodIn_r _ [6, 7, 8, 5, 9] (by decide +kernel) (by decide +kernel)
set_option maxRecDepth 20000 in
theorem gX4_add_X4_fits : GoodIn wsX4_add (va_wsS RX4 50 yX4_fits wsX4_fits) := goodIn_app (goodIn_of _ (by decide +kernel)) ggX4_add_X4_fits
set_option maxRecDepth 20000 in
theorem ggX4_add_X4_forget : GoodIn wsX4_add wsX4_forget := goodIn_r _ [13, 14, 15, 16, 17, 18, 19, 20, 21, 22, 23, 24, 25, 26, 27, 28, 29, 30] (by decide +kernel) (by decide +kernel)
set_option maxRecDepth 20000 in
theorem gX4_add_X4_forget : GoodIn wsX4_add (wsV RX4 54 RX4 yX4_forget wsX4_forget) := goodIn_app (goodIn_of _ (by decide +kernel)) ggX4_add_X4_forget
theorem dX4_add_0 : decode cX4_add 0 = .ok (.iload_n 1, 1) := by decide +kernel
theorem dX4_add_1 : decode cX4_add 1 = .ok (.iload_n 2, 1) := by decide +kernel
theorem dX4_add_2 : decode cX4_add 2 = .ok (.iload_n 3, 1) := by decide +kernel
theorem dX4_add_3 : decode cX4_add 3 = .ok (.iload 4, 2) := by decide +kernel
theorem dX4_add_5 : decode cX4_add 5 = .ok (.invokestatic 50, 3) := by decide +kernel
theorem dX4_add_8 : decode cX4_add 8 = .ok (.ifCond .ne 5, 3) := by decide +kernel
theorem dX4_add_11 : decode cX4_add 11 = .ok (.iconst (-1), 1) := by decide +kernel
theorem dX4_add_12 : decode cX4_add 12 = .ok (.ireturn, 1) := by decide +kernel
theorem dX4_add_13 : decode cX4_add 13 = .ok (.aload_n 0, 1) := by decide +kernel
theorem dX4_add_14 : decode cX4_add 14 = .ok (.getfield 42, 3) := by decide +kernel
theorem dX4_add_17 : decode cX4_add 17 = .ok (.bipush 24, 2) := by decide +kernel
theorem dX4_add_19 : decode cX4_add 19 = .ok (.if_icmp .ne 6, 3) := by decide +kernel
theorem dX4_add_22 : decode cX4_add 22 = .ok (.bipush (-2), 2) := by decide +kernel
theorem dX4_add_24 : decode cX4_add 24 = .ok (.ireturn, 1) := by decide +kernel
theorem dX4_add_25 : decode cX4_add 25 = .ok (.aload_n 0, 1) := by decide +kernel
theorem dX4_add_26 : decode cX4_add 26 = .ok (.getfield 7, 3) := by decide +kernel
theorem dX4_add_29 : decode cX4_add 29 = .ok (.iconst 4, 1) := by decide +kernel
theorem dX4_add_30 : decode cX4_add 30 = .ok (.aload_n 0, 1) := by decide +kernel
theorem dX4_add_31 : decode cX4_add 31 = .ok (.getfield 42, 3) := by decide +kernel
theorem dX4_add_34 : decode cX4_add 34 = .ok (.imul, 1) := by decide +kernel
theorem dX4_add_35 : decode cX4_add 35 = .ok (.iload_n 1, 1) := by decide +kernel
theorem dX4_add_36 : decode cX4_add 36 = .ok (.iastore, 1) := by decide +kernel
theorem dX4_add_37 : decode cX4_add 37 = .ok (.aload_n 0, 1) := by decide +kernel
theorem dX4_add_38 : decode cX4_add 38 = .ok (.getfield 7, 3) := by decide +kernel
theorem dX4_add_41 : decode cX4_add 41 = .ok (.iconst 4, 1) := by decide +kernel
theorem dX4_add_42 : decode cX4_add 42 = .ok (.aload_n 0, 1) := by decide +kernel
theorem dX4_add_43 : decode cX4_add 43 = .ok (.getfield 42, 3) := by decide +kernel
theorem dX4_add_46 : decode cX4_add 46 = .ok (.imul, 1) := by decide +kernel
theorem dX4_add_47 : decode cX4_add 47 = .ok (.iconst 1, 1) := by decide +kernel
theorem dX4_add_48 : decode cX4_add 48 = .ok (.iadd, 1) := by decide +kernel
theorem dX4_add_49 : decode cX4_add 49 = .ok (.iload_n 2, 1) := by decide +kernel
theorem dX4_add_50 : decode cX4_add 50 = .ok (.iastore, 1) := by decide +kernel
theorem dX4_add_51 : decode cX4_add 51 = .ok (.aload_n 0, 1) := by decide +kernel
theorem dX4_add_52 : decode cX4_add 52 = .ok (.getfield 7, 3) := by decide +kernel
theorem dX4_add_55 : decode cX4_add 55 = .ok (.iconst 4, 1) := by decide +kernel
theorem dX4_add_56 : decode cX4_add 56 = .ok (.aload_n 0, 1) := by decide +kernel
theorem dX4_add_57 : decode cX4_add 57 = .ok (.getfield 42, 3) := by decide +kernel
theorem dX4_add_60 : decode cX4_add 60 = .ok (.imul, 1) := by decide +kernel
theorem dX4_add_61 : decode cX4_add 61 = .ok (.iconst 2, 1) := by decide +kernel
theorem dX4_add_62 : decode cX4_add 62 = .ok (.iadd, 1) := by decide +kernel
theorem dX4_add_63 : decode cX4_add 63 = .ok (.iload_n 3, 1) := by decide +kernel
theorem dX4_add_64 : decode cX4_add 64 = .ok (.iastore, 1) := by decide +kernel
theorem dX4_add_65 : decode cX4_add 65 = .ok (.aload_n 0, 1) := by decide +kernel
theorem dX4_add_66 : decode cX4_add 66 = .ok (.getfield 7, 3) := by decide +kernel
theorem dX4_add_69 : decode cX4_add 69 = .ok (.iconst 4, 1) := by decide +kernel
theorem dX4_add_70 : decode cX4_add 70 = .ok (.aload_n 0, 1) := by decide +kernel
theorem dX4_add_71 : decode cX4_add 71 = .ok (.getfield 42, 3) := by decide +kernel
theorem dX4_add_74 : decode cX4_add 74 = .ok (.imul, 1) := by decide +kernel
theorem dX4_add_75 : decode cX4_add 75 = .ok (.iconst 3, 1) := by decide +kernel
theorem dX4_add_76 : decode cX4_add 76 = .ok (.iadd, 1) := by decide +kernel
theorem dX4_add_77 : decode cX4_add 77 = .ok (.iload 4, 2) := by decide +kernel
theorem dX4_add_79 : decode cX4_add 79 = .ok (.iastore, 1) := by decide +kernel
theorem dX4_add_80 : decode cX4_add 80 = .ok (.aload_n 0, 1) := by decide +kernel
theorem dX4_add_81 : decode cX4_add 81 = .ok (.aload_n 0, 1) := by decide +kernel
theorem dX4_add_82 : decode cX4_add 82 = .ok (.getfield 42, 3) := by decide +kernel
theorem dX4_add_85 : decode cX4_add 85 = .ok (.iconst 1, 1) := by decide +kernel
theorem dX4_add_86 : decode cX4_add 86 = .ok (.iadd, 1) := by decide +kernel
theorem dX4_add_87 : decode cX4_add 87 = .ok (.putfield 42, 3) := by decide +kernel
theorem dX4_add_90 : decode cX4_add 90 = .ok (.aload_n 0, 1) := by decide +kernel
theorem dX4_add_91 : decode cX4_add 91 = .ok (.invokevirtual 54, 3) := by decide +kernel
theorem dX4_add_94 : decode cX4_add 94 = .ok (.aload_n 0, 1) := by decide +kernel
theorem dX4_add_95 : decode cX4_add 95 = .ok (.getfield 42, 3) := by decide +kernel
theorem dX4_add_98 : decode cX4_add 98 = .ok (.iconst 1, 1) := by decide +kernel
theorem dX4_add_99 : decode cX4_add 99 = .ok (.isub, 1) := by decide +kernel
theorem dX4_add_100 : decode cX4_add 100 = .ok (.ireturn, 1) := by decide +kernel
theorem dX4_forget_0 : decode cX4_forget 0 = .ok (.aload_n 0, 1) := by decide +kernel
theorem dX4_forget_1 : decode cX4_forget 1 = .ok (.iconst 0, 1) := by decide +kernel
theorem dX4_forget_2 : decode cX4_forget 2 = .ok (.putfield 57, 3) := by decide +kernel
theorem dX4_forget_5 : decode cX4_forget 5 = .ok (.aload_n 0, 1) := by decide +kernel
theorem dX4_forget_6 : decode cX4_forget 6 = .ok (.iconst 0, 1) := by decide +kernel
theorem dX4_forget_7 : decode cX4_forget 7 = .ok (.putfield 61, 3) := by decide +kernel
theorem dX4_forget_10 : decode cX4_forget 10 = .ok (.return_, 1) := by decide +kernel
set_option maxRecDepth 20000 in
theorem ggX4_clear_X4_forget : GoodIn wsX4_clear wsX4_forget := goodIn_r _ [6, 7, 8, 9, 10, 11, 12, 13, 14, 15, 16, 17, 18, 19, 20, 21, 22, 23] (by decide +kernel) (by decide +kernel)
set_option maxRecDepth 20000 in
theorem gX4_clear_X4_forget : GoodIn wsX4_clear (wsV RX4 54 RX4 yX4_forget wsX4_forget) := goodIn_app (goodIn_of _ (by decide +kernel)) ggX4_clear_X4_forget
theorem dX4_clear_0 : decode cX4_clear 0 = .ok (.aload_n 0, 1) := by decide +kernel
theorem dX4_clear_1 : decode cX4_clear 1 = .ok (.iconst 0, 1) := by decide +kernel
theorem dX4_clear_2 : decode cX4_clear 2 = .ok (.putfield 42, 3) := by decide +kernel
theorem dX4_clear_5 : decode cX4_clear 5 = .ok (.aload_n 0, 1) := by decide +kernel
theorem dX4_clear_6 : decode cX4_clear 6 = .ok (.invokevirtual 54, 3) := by decide +kernel
theorem dX4_clear_9 : decode cX4_clear 9 = .ok (.return_, 1) := by decide +kernel
theorem dX4_size_0 : decode cX4_size 0 = .ok (.aload_n 0, 1) := by decide +kernel
theorem dX4_size_1 : decode cX4_size 1 = .ok (.getfield 42, 3) := by decide +kernel
theorem dX4_size_4 : decode cX4_size 4 = .ok (.ireturn, 1) := by decide +kernel
set_option maxRecDepth 20000 in
theorem ggX4_code_X4_within : GoodIn wsX4_code wsX4_within := goodIn_r _ [6] (by decide +kernel) (by decide +kernel)
set_option maxRecDepth 20000 in
theorem gX4_code_X4_within : GoodIn wsX4_code (va_wsS RX4 46 yX4_within wsX4_within) := goodIn_app (goodIn_of _ (by decide +kernel)) ggX4_code_X4_within
theorem dX4_code_0 : decode cX4_code 0 = .ok (.iload_n 1, 1) := by decide +kernel
theorem dX4_code_1 : decode cX4_code 1 = .ok (.aload_n 0, 1) := by decide +kernel
theorem dX4_code_2 : decode cX4_code 2 = .ok (.getfield 42, 3) := by decide +kernel
theorem dX4_code_5 : decode cX4_code 5 = .ok (.iconst 1, 1) := by decide +kernel
theorem dX4_code_6 : decode cX4_code 6 = .ok (.isub, 1) := by decide +kernel
theorem dX4_code_7 : decode cX4_code 7 = .ok (.invokestatic 46, 3) := by decide +kernel
theorem dX4_code_10 : decode cX4_code 10 = .ok (.ifCond .eq 24, 3) := by decide +kernel
theorem dX4_code_13 : decode cX4_code 13 = .ok (.iload_n 2, 1) := by decide +kernel
theorem dX4_code_14 : decode cX4_code 14 = .ok (.iconst 3, 1) := by decide +kernel
theorem dX4_code_15 : decode cX4_code 15 = .ok (.invokestatic 46, 3) := by decide +kernel
theorem dX4_code_18 : decode cX4_code 18 = .ok (.ifCond .eq 16, 3) := by decide +kernel
theorem dX4_code_21 : decode cX4_code 21 = .ok (.aload_n 0, 1) := by decide +kernel
theorem dX4_code_22 : decode cX4_code 22 = .ok (.getfield 7, 3) := by decide +kernel
theorem dX4_code_25 : decode cX4_code 25 = .ok (.iconst 4, 1) := by decide +kernel
theorem dX4_code_26 : decode cX4_code 26 = .ok (.iload_n 1, 1) := by decide +kernel
theorem dX4_code_27 : decode cX4_code 27 = .ok (.imul, 1) := by decide +kernel
theorem dX4_code_28 : decode cX4_code 28 = .ok (.iload_n 2, 1) := by decide +kernel
theorem dX4_code_29 : decode cX4_code 29 = .ok (.iadd, 1) := by decide +kernel
theorem dX4_code_30 : decode cX4_code 30 = .ok (.iaload, 1) := by decide +kernel
theorem dX4_code_31 : decode cX4_code 31 = .ok (.goto 5, 3) := by decide +kernel
theorem dX4_code_34 : decode cX4_code 34 = .ok (.bipush (-9), 2) := by decide +kernel
theorem dX4_code_36 : decode cX4_code 36 = .ok (.ireturn, 1) := by decide +kernel
theorem dX4_whole_0 : decode cX4_whole 0 = .ok (.aload_n 0, 1) := by decide +kernel
theorem dX4_whole_1 : decode cX4_whole 1 = .ok (.getfield 42, 3) := by decide +kernel
theorem dX4_whole_4 : decode cX4_whole 4 = .ok (.ifCond .eq 37, 3) := by decide +kernel
theorem dX4_whole_7 : decode cX4_whole 7 = .ok (.aload_n 0, 1) := by decide +kernel
theorem dX4_whole_8 : decode cX4_whole 8 = .ok (.getfield 7, 3) := by decide +kernel
theorem dX4_whole_11 : decode cX4_whole 11 = .ok (.iconst 4, 1) := by decide +kernel
theorem dX4_whole_12 : decode cX4_whole 12 = .ok (.aload_n 0, 1) := by decide +kernel
theorem dX4_whole_13 : decode cX4_whole 13 = .ok (.getfield 42, 3) := by decide +kernel
theorem dX4_whole_16 : decode cX4_whole 16 = .ok (.imul, 1) := by decide +kernel
theorem dX4_whole_17 : decode cX4_whole 17 = .ok (.iconst 4, 1) := by decide +kernel
theorem dX4_whole_18 : decode cX4_whole 18 = .ok (.isub, 1) := by decide +kernel
theorem dX4_whole_19 : decode cX4_whole 19 = .ok (.iaload, 1) := by decide +kernel
theorem dX4_whole_20 : decode cX4_whole 20 = .ok (.ifCond .eq 23, 3) := by decide +kernel
theorem dX4_whole_23 : decode cX4_whole 23 = .ok (.aload_n 0, 1) := by decide +kernel
theorem dX4_whole_24 : decode cX4_whole 24 = .ok (.getfield 7, 3) := by decide +kernel
theorem dX4_whole_27 : decode cX4_whole 27 = .ok (.iconst 4, 1) := by decide +kernel
theorem dX4_whole_28 : decode cX4_whole 28 = .ok (.aload_n 0, 1) := by decide +kernel
theorem dX4_whole_29 : decode cX4_whole 29 = .ok (.getfield 42, 3) := by decide +kernel
theorem dX4_whole_32 : decode cX4_whole 32 = .ok (.imul, 1) := by decide +kernel
theorem dX4_whole_33 : decode cX4_whole 33 = .ok (.iconst 4, 1) := by decide +kernel
theorem dX4_whole_34 : decode cX4_whole 34 = .ok (.isub, 1) := by decide +kernel
theorem dX4_whole_35 : decode cX4_whole 35 = .ok (.iaload, 1) := by decide +kernel
theorem dX4_whole_36 : decode cX4_whole 36 = .ok (.bipush 10, 2) := by decide +kernel
theorem dX4_whole_38 : decode cX4_whole 38 = .ok (.if_icmp .eq 5, 3) := by decide +kernel
theorem dX4_whole_41 : decode cX4_whole 41 = .ok (.iconst 0, 1) := by decide +kernel
theorem dX4_whole_42 : decode cX4_whole 42 = .ok (.ireturn, 1) := by decide +kernel
theorem dX4_whole_43 : decode cX4_whole 43 = .ok (.iconst 0, 1) := by decide +kernel
theorem dX4_whole_44 : decode cX4_whole 44 = .ok (.istore_n 1, 1) := by decide +kernel
theorem dX4_whole_45 : decode cX4_whole 45 = .ok (.iload_n 1, 1) := by decide +kernel
theorem dX4_whole_46 : decode cX4_whole 46 = .ok (.aload_n 0, 1) := by decide +kernel
theorem dX4_whole_47 : decode cX4_whole 47 = .ok (.getfield 42, 3) := by decide +kernel
theorem dX4_whole_50 : decode cX4_whole 50 = .ok (.if_icmp .ge 49, 3) := by decide +kernel
theorem dX4_whole_53 : decode cX4_whole 53 = .ok (.aload_n 0, 1) := by decide +kernel
theorem dX4_whole_54 : decode cX4_whole 54 = .ok (.getfield 7, 3) := by decide +kernel
theorem dX4_whole_57 : decode cX4_whole 57 = .ok (.iconst 4, 1) := by decide +kernel
theorem dX4_whole_58 : decode cX4_whole 58 = .ok (.iload_n 1, 1) := by decide +kernel
theorem dX4_whole_59 : decode cX4_whole 59 = .ok (.imul, 1) := by decide +kernel
theorem dX4_whole_60 : decode cX4_whole 60 = .ok (.iaload, 1) := by decide +kernel
theorem dX4_whole_61 : decode cX4_whole 61 = .ok (.istore_n 2, 1) := by decide +kernel
theorem dX4_whole_62 : decode cX4_whole 62 = .ok (.iload_n 2, 1) := by decide +kernel
theorem dX4_whole_63 : decode cX4_whole 63 = .ok (.bipush 9, 2) := by decide +kernel
theorem dX4_whole_65 : decode cX4_whole 65 = .ok (.if_icmp .eq 9, 3) := by decide +kernel
theorem dX4_whole_68 : decode cX4_whole 68 = .ok (.iload_n 2, 1) := by decide +kernel
theorem dX4_whole_69 : decode cX4_whole 69 = .ok (.bipush 10, 2) := by decide +kernel
theorem dX4_whole_71 : decode cX4_whole 71 = .ok (.if_icmp .ne 22, 3) := by decide +kernel
theorem dX4_whole_74 : decode cX4_whole 74 = .ok (.aload_n 0, 1) := by decide +kernel
theorem dX4_whole_75 : decode cX4_whole 75 = .ok (.getfield 7, 3) := by decide +kernel
theorem dX4_whole_78 : decode cX4_whole 78 = .ok (.iconst 4, 1) := by decide +kernel
theorem dX4_whole_79 : decode cX4_whole 79 = .ok (.iload_n 1, 1) := by decide +kernel
theorem dX4_whole_80 : decode cX4_whole 80 = .ok (.imul, 1) := by decide +kernel
theorem dX4_whole_81 : decode cX4_whole 81 = .ok (.iconst 3, 1) := by decide +kernel
theorem dX4_whole_82 : decode cX4_whole 82 = .ok (.iadd, 1) := by decide +kernel
theorem dX4_whole_83 : decode cX4_whole 83 = .ok (.iaload, 1) := by decide +kernel
theorem dX4_whole_84 : decode cX4_whole 84 = .ok (.aload_n 0, 1) := by decide +kernel
theorem dX4_whole_85 : decode cX4_whole 85 = .ok (.getfield 42, 3) := by decide +kernel
theorem dX4_whole_88 : decode cX4_whole 88 = .ok (.if_icmp .lt 5, 3) := by decide +kernel
theorem dX4_whole_91 : decode cX4_whole 91 = .ok (.iconst 0, 1) := by decide +kernel
theorem dX4_whole_92 : decode cX4_whole 92 = .ok (.ireturn, 1) := by decide +kernel
theorem dX4_whole_93 : decode cX4_whole 93 = .ok (.iinc 1 1, 3) := by decide +kernel
theorem dX4_whole_96 : decode cX4_whole 96 = .ok (.goto (-51), 3) := by decide +kernel
theorem dX4_whole_99 : decode cX4_whole 99 = .ok (.iconst 1, 1) := by decide +kernel
theorem dX4_whole_100 : decode cX4_whole 100 = .ok (.ireturn, 1) := by decide +kernel
theorem dX4_set_0 : decode cX4_set 0 = .ok (.lload_n 2, 1) := by decide +kernel
theorem dX4_set_1 : decode cX4_set 1 = .ok (.ldc2_w 64, 3) := by decide +kernel
theorem dX4_set_4 : decode cX4_set 4 = .ok (.ladd, 1) := by decide +kernel
theorem dX4_set_5 : decode cX4_set 5 = .ok (.bipush 32, 2) := by decide +kernel
theorem dX4_set_7 : decode cX4_set 7 = .ok (.lshr, 1) := by decide +kernel
theorem dX4_set_8 : decode cX4_set 8 = .ok (.lload 4, 2) := by decide +kernel
theorem dX4_set_10 : decode cX4_set 10 = .ok (.ldc2_w 64, 3) := by decide +kernel
theorem dX4_set_13 : decode cX4_set 13 = .ok (.ladd, 1) := by decide +kernel
theorem dX4_set_14 : decode cX4_set 14 = .ok (.bipush 32, 2) := by decide +kernel
theorem dX4_set_16 : decode cX4_set 16 = .ok (.lshr, 1) := by decide +kernel
theorem dX4_set_17 : decode cX4_set 17 = .ok (.lcmp, 1) := by decide +kernel
theorem dX4_set_18 : decode cX4_set 18 = .ok (.ifCond .ne 7, 3) := by decide +kernel
theorem dX4_set_21 : decode cX4_set 21 = .ok (.iconst 1, 1) := by decide +kernel
theorem dX4_set_22 : decode cX4_set 22 = .ok (.goto 4, 3) := by decide +kernel
theorem dX4_set_25 : decode cX4_set 25 = .ok (.iconst 0, 1) := by decide +kernel
theorem dX4_set_26 : decode cX4_set 26 = .ok (.istore 6, 2) := by decide +kernel
theorem dX4_set_28 : decode cX4_set 28 = .ok (.aload_n 0, 1) := by decide +kernel
theorem dX4_set_29 : decode cX4_set 29 = .ok (.getfield 36, 3) := by decide +kernel
theorem dX4_set_32 : decode cX4_set 32 = .ok (.iload_n 1, 1) := by decide +kernel
theorem dX4_set_33 : decode cX4_set 33 = .ok (.iload 6, 2) := by decide +kernel
theorem dX4_set_35 : decode cX4_set 35 = .ok (.ifCond .eq 9, 3) := by decide +kernel
theorem dX4_set_38 : decode cX4_set 38 = .ok (.lload_n 2, 1) := by decide +kernel
theorem dX4_set_39 : decode cX4_set 39 = .ok (.l2i, 1) := by decide +kernel
theorem dX4_set_40 : decode cX4_set 40 = .ok (.i2l, 1) := by decide +kernel
theorem dX4_set_41 : decode cX4_set 41 = .ok (.goto 6, 3) := by decide +kernel
theorem dX4_set_44 : decode cX4_set 44 = .ok (.ldc2_w 66, 3) := by decide +kernel
theorem dX4_set_47 : decode cX4_set 47 = .ok (.lastore, 1) := by decide +kernel
theorem dX4_set_48 : decode cX4_set 48 = .ok (.aload_n 0, 1) := by decide +kernel
theorem dX4_set_49 : decode cX4_set 49 = .ok (.getfield 39, 3) := by decide +kernel
theorem dX4_set_52 : decode cX4_set 52 = .ok (.iload_n 1, 1) := by decide +kernel
theorem dX4_set_53 : decode cX4_set 53 = .ok (.iload 6, 2) := by decide +kernel
theorem dX4_set_55 : decode cX4_set 55 = .ok (.ifCond .eq 10, 3) := by decide +kernel
theorem dX4_set_58 : decode cX4_set 58 = .ok (.lload 4, 2) := by decide +kernel
theorem dX4_set_60 : decode cX4_set 60 = .ok (.l2i, 1) := by decide +kernel
theorem dX4_set_61 : decode cX4_set 61 = .ok (.i2l, 1) := by decide +kernel
theorem dX4_set_62 : decode cX4_set 62 = .ok (.goto 6, 3) := by decide +kernel
theorem dX4_set_65 : decode cX4_set 65 = .ok (.ldc2_w 68, 3) := by decide +kernel
theorem dX4_set_68 : decode cX4_set 68 = .ok (.lastore, 1) := by decide +kernel
theorem dX4_set_69 : decode cX4_set 69 = .ok (.return_, 1) := by decide +kernel
theorem dX4_meet_0 : decode cX4_meet 0 = .ok (.iload_n 1, 1) := by decide +kernel
theorem dX4_meet_1 : decode cX4_meet 1 = .ok (.iconst 3, 1) := by decide +kernel
theorem dX4_meet_2 : decode cX4_meet 2 = .ok (.if_icmp .ne 10, 3) := by decide +kernel
theorem dX4_meet_5 : decode cX4_meet 5 = .ok (.lload_n 2, 1) := by decide +kernel
theorem dX4_meet_6 : decode cX4_meet 6 = .ok (.lload 4, 2) := by decide +kernel
theorem dX4_meet_8 : decode cX4_meet 8 = .ok (.ladd, 1) := by decide +kernel
theorem dX4_meet_9 : decode cX4_meet 9 = .ok (.goto 31, 3) := by decide +kernel
theorem dX4_meet_12 : decode cX4_meet 12 = .ok (.iload_n 1, 1) := by decide +kernel
theorem dX4_meet_13 : decode cX4_meet 13 = .ok (.iconst 4, 1) := by decide +kernel
theorem dX4_meet_14 : decode cX4_meet 14 = .ok (.if_icmp .ne 10, 3) := by decide +kernel
theorem dX4_meet_17 : decode cX4_meet 17 = .ok (.lload_n 2, 1) := by decide +kernel
theorem dX4_meet_18 : decode cX4_meet 18 = .ok (.lload 4, 2) := by decide +kernel
theorem dX4_meet_20 : decode cX4_meet 20 = .ok (.lsub, 1) := by decide +kernel
theorem dX4_meet_21 : decode cX4_meet 21 = .ok (.goto 19, 3) := by decide +kernel
theorem dX4_meet_24 : decode cX4_meet 24 = .ok (.iload_n 1, 1) := by decide +kernel
theorem dX4_meet_25 : decode cX4_meet 25 = .ok (.iconst 5, 1) := by decide +kernel
theorem dX4_meet_26 : decode cX4_meet 26 = .ok (.if_icmp .ne 10, 3) := by decide +kernel
theorem dX4_meet_29 : decode cX4_meet 29 = .ok (.lload_n 2, 1) := by decide +kernel
theorem dX4_meet_30 : decode cX4_meet 30 = .ok (.lload 4, 2) := by decide +kernel
theorem dX4_meet_32 : decode cX4_meet 32 = .ok (.lmul, 1) := by decide +kernel
theorem dX4_meet_33 : decode cX4_meet 33 = .ok (.goto 7, 3) := by decide +kernel
theorem dX4_meet_36 : decode cX4_meet 36 = .ok (.lload_n 2, 1) := by decide +kernel
theorem dX4_meet_37 : decode cX4_meet 37 = .ok (.lload 4, 2) := by decide +kernel
theorem dX4_meet_39 : decode cX4_meet 39 = .ok (.ldiv, 1) := by decide +kernel
theorem dX4_meet_40 : decode cX4_meet 40 = .ok (.lstore 6, 2) := by decide +kernel
theorem dX4_meet_42 : decode cX4_meet 42 = .ok (.lload 6, 2) := by decide +kernel
theorem dX4_meet_44 : decode cX4_meet 44 = .ok (.aload_n 0, 1) := by decide +kernel
theorem dX4_meet_45 : decode cX4_meet 45 = .ok (.getfield 70, 3) := by decide +kernel
theorem dX4_meet_48 : decode cX4_meet 48 = .ok (.lcmp, 1) := by decide +kernel
theorem dX4_meet_49 : decode cX4_meet 49 = .ok (.ifCond .ge 9, 3) := by decide +kernel
theorem dX4_meet_52 : decode cX4_meet 52 = .ok (.aload_n 0, 1) := by decide +kernel
theorem dX4_meet_53 : decode cX4_meet 53 = .ok (.lload 6, 2) := by decide +kernel
theorem dX4_meet_55 : decode cX4_meet 55 = .ok (.putfield 70, 3) := by decide +kernel
theorem dX4_meet_58 : decode cX4_meet 58 = .ok (.lload 6, 2) := by decide +kernel
theorem dX4_meet_60 : decode cX4_meet 60 = .ok (.aload_n 0, 1) := by decide +kernel
theorem dX4_meet_61 : decode cX4_meet 61 = .ok (.getfield 74, 3) := by decide +kernel
theorem dX4_meet_64 : decode cX4_meet 64 = .ok (.lcmp, 1) := by decide +kernel
theorem dX4_meet_65 : decode cX4_meet 65 = .ok (.ifCond .le 9, 3) := by decide +kernel
theorem dX4_meet_68 : decode cX4_meet 68 = .ok (.aload_n 0, 1) := by decide +kernel
theorem dX4_meet_69 : decode cX4_meet 69 = .ok (.lload 6, 2) := by decide +kernel
theorem dX4_meet_71 : decode cX4_meet 71 = .ok (.putfield 74, 3) := by decide +kernel
theorem dX4_meet_74 : decode cX4_meet 74 = .ok (.return_, 1) := by decide +kernel
set_option maxRecDepth 20000 in
theorem ggX4_corners_X4_meet : GoodIn wsX4_corners wsX4_meet := goodIn_r _ [5, 6, 7, 8, 9, 10, 11, 12, 13, 14, 15, 16, 17, 18, 19, 20, 21, 22] (by decide +kernel) (by decide +kernel)
set_option maxRecDepth 20000 in
theorem gX4_corners_X4_meet : GoodIn wsX4_corners (wsV RX4 77 RX4 yX4_meet wsX4_meet) := goodIn_app (goodIn_of _ (by decide +kernel)) ggX4_corners_X4_meet
theorem dX4_corners_0 : decode cX4_corners 0 = .ok (.aload_n 0, 1) := by decide +kernel
theorem dX4_corners_1 : decode cX4_corners 1 = .ok (.iload_n 1, 1) := by decide +kernel
theorem dX4_corners_2 : decode cX4_corners 2 = .ok (.lload_n 2, 1) := by decide +kernel
theorem dX4_corners_3 : decode cX4_corners 3 = .ok (.lload 6, 2) := by decide +kernel
theorem dX4_corners_5 : decode cX4_corners 5 = .ok (.invokevirtual 77, 3) := by decide +kernel
theorem dX4_corners_8 : decode cX4_corners 8 = .ok (.aload_n 0, 1) := by decide +kernel
theorem dX4_corners_9 : decode cX4_corners 9 = .ok (.iload_n 1, 1) := by decide +kernel
theorem dX4_corners_10 : decode cX4_corners 10 = .ok (.lload_n 2, 1) := by decide +kernel
theorem dX4_corners_11 : decode cX4_corners 11 = .ok (.lload 8, 2) := by decide +kernel
theorem dX4_corners_13 : decode cX4_corners 13 = .ok (.invokevirtual 77, 3) := by decide +kernel
theorem dX4_corners_16 : decode cX4_corners 16 = .ok (.aload_n 0, 1) := by decide +kernel
theorem dX4_corners_17 : decode cX4_corners 17 = .ok (.iload_n 1, 1) := by decide +kernel
theorem dX4_corners_18 : decode cX4_corners 18 = .ok (.lload 4, 2) := by decide +kernel
theorem dX4_corners_20 : decode cX4_corners 20 = .ok (.lload 6, 2) := by decide +kernel
theorem dX4_corners_22 : decode cX4_corners 22 = .ok (.invokevirtual 77, 3) := by decide +kernel
theorem dX4_corners_25 : decode cX4_corners 25 = .ok (.aload_n 0, 1) := by decide +kernel
theorem dX4_corners_26 : decode cX4_corners 26 = .ok (.iload_n 1, 1) := by decide +kernel
theorem dX4_corners_27 : decode cX4_corners 27 = .ok (.lload 4, 2) := by decide +kernel
theorem dX4_corners_29 : decode cX4_corners 29 = .ok (.lload 8, 2) := by decide +kernel
theorem dX4_corners_31 : decode cX4_corners 31 = .ok (.invokevirtual 77, 3) := by decide +kernel
theorem dX4_corners_34 : decode cX4_corners 34 = .ok (.return_, 1) := by decide +kernel
set_option maxRecDepth 20000 in
theorem ggX4_calculate_X4_corners : GoodIn wsX4_calculate wsX4_corners := goodIn_r _ [12, 13, 14, 15, 11, 16, 4, 5, 26, 27, 28, 29, 30, 31, 32, 33, 34, 35, 36, 37, 38, 39, 40] (by decide +kernel) (by decide +kernel)
set_option maxRecDepth 20000 in
theorem gX4_calculate_X4_corners : GoodIn wsX4_calculate (wsV RX4 83 RX4 yX4_corners wsX4_corners) := goodIn_app (goodIn_of _ (by decide +kernel)) ggX4_calculate_X4_corners
set_option maxRecDepth 20000 in
theorem ggX4_calculate_X4_set : GoodIn wsX4_calculate wsX4_set := goodIn_r _ [20, 21, 22, 23, 24, 25, 26, 27, 28, 29, 30, 31, 32, 33, 34, 35, 36, 37, 38, 39, 40] (by decide +kernel) (by decide +kernel)
set_option maxRecDepth 20000 in
theorem gX4_calculate_X4_set : GoodIn wsX4_calculate (wsV RX4 89 RX4 yX4_set wsX4_set) := goodIn_app (goodIn_of _ (by decide +kernel)) ggX4_calculate_X4_set
theorem dX4_calculate_0 : decode cX4_calculate 0 = .ok (.aload_n 0, 1) := by decide +kernel
theorem dX4_calculate_1 : decode cX4_calculate 1 = .ok (.getfield 17, 3) := by decide +kernel
theorem dX4_calculate_4 : decode cX4_calculate 4 = .ok (.iconst 4, 1) := by decide +kernel
theorem dX4_calculate_5 : decode cX4_calculate 5 = .ok (.iload_n 2, 1) := by decide +kernel
theorem dX4_calculate_6 : decode cX4_calculate 6 = .ok (.imul, 1) := by decide +kernel
theorem dX4_calculate_7 : decode cX4_calculate 7 = .ok (.iload 4, 2) := by decide +kernel
theorem dX4_calculate_9 : decode cX4_calculate 9 = .ok (.iadd, 1) := by decide +kernel
theorem dX4_calculate_10 : decode cX4_calculate 10 = .ok (.laload, 1) := by decide +kernel
theorem dX4_calculate_11 : decode cX4_calculate 11 = .ok (.lstore 6, 2) := by decide +kernel
theorem dX4_calculate_13 : decode cX4_calculate 13 = .ok (.aload_n 0, 1) := by decide +kernel
theorem dX4_calculate_14 : decode cX4_calculate 14 = .ok (.getfield 21, 3) := by decide +kernel
theorem dX4_calculate_17 : decode cX4_calculate 17 = .ok (.iconst 4, 1) := by decide +kernel
theorem dX4_calculate_18 : decode cX4_calculate 18 = .ok (.iload_n 2, 1) := by decide +kernel
theorem dX4_calculate_19 : decode cX4_calculate 19 = .ok (.imul, 1) := by decide +kernel
theorem dX4_calculate_20 : decode cX4_calculate 20 = .ok (.iload 4, 2) := by decide +kernel
theorem dX4_calculate_22 : decode cX4_calculate 22 = .ok (.iadd, 1) := by decide +kernel
theorem dX4_calculate_23 : decode cX4_calculate 23 = .ok (.laload, 1) := by decide +kernel
theorem dX4_calculate_24 : decode cX4_calculate 24 = .ok (.lstore 8, 2) := by decide +kernel
theorem dX4_calculate_26 : decode cX4_calculate 26 = .ok (.aload_n 0, 1) := by decide +kernel
theorem dX4_calculate_27 : decode cX4_calculate 27 = .ok (.getfield 17, 3) := by decide +kernel
theorem dX4_calculate_30 : decode cX4_calculate 30 = .ok (.iconst 4, 1) := by decide +kernel
theorem dX4_calculate_31 : decode cX4_calculate 31 = .ok (.iload_n 2, 1) := by decide +kernel
theorem dX4_calculate_32 : decode cX4_calculate 32 = .ok (.imul, 1) := by decide +kernel
theorem dX4_calculate_33 : decode cX4_calculate 33 = .ok (.iload 5, 2) := by decide +kernel
theorem dX4_calculate_35 : decode cX4_calculate 35 = .ok (.iadd, 1) := by decide +kernel
theorem dX4_calculate_36 : decode cX4_calculate 36 = .ok (.laload, 1) := by decide +kernel
theorem dX4_calculate_37 : decode cX4_calculate 37 = .ok (.lstore 10, 2) := by decide +kernel
theorem dX4_calculate_39 : decode cX4_calculate 39 = .ok (.aload_n 0, 1) := by decide +kernel
theorem dX4_calculate_40 : decode cX4_calculate 40 = .ok (.getfield 21, 3) := by decide +kernel
theorem dX4_calculate_43 : decode cX4_calculate 43 = .ok (.iconst 4, 1) := by decide +kernel
theorem dX4_calculate_44 : decode cX4_calculate 44 = .ok (.iload_n 2, 1) := by decide +kernel
theorem dX4_calculate_45 : decode cX4_calculate 45 = .ok (.imul, 1) := by decide +kernel
theorem dX4_calculate_46 : decode cX4_calculate 46 = .ok (.iload 5, 2) := by decide +kernel
theorem dX4_calculate_48 : decode cX4_calculate 48 = .ok (.iadd, 1) := by decide +kernel
theorem dX4_calculate_49 : decode cX4_calculate 49 = .ok (.laload, 1) := by decide +kernel
theorem dX4_calculate_50 : decode cX4_calculate 50 = .ok (.lstore 12, 2) := by decide +kernel
theorem dX4_calculate_52 : decode cX4_calculate 52 = .ok (.aload_n 0, 1) := by decide +kernel
theorem dX4_calculate_53 : decode cX4_calculate 53 = .ok (.ldc2_w 81, 3) := by decide +kernel
theorem dX4_calculate_56 : decode cX4_calculate 56 = .ok (.putfield 70, 3) := by decide +kernel
theorem dX4_calculate_59 : decode cX4_calculate 59 = .ok (.aload_n 0, 1) := by decide +kernel
theorem dX4_calculate_60 : decode cX4_calculate 60 = .ok (.aload_n 0, 1) := by decide +kernel
theorem dX4_calculate_61 : decode cX4_calculate 61 = .ok (.getfield 70, 3) := by decide +kernel
theorem dX4_calculate_64 : decode cX4_calculate 64 = .ok (.aload_n 0, 1) := by decide +kernel
theorem dX4_calculate_65 : decode cX4_calculate 65 = .ok (.getfield 70, 3) := by decide +kernel
theorem dX4_calculate_68 : decode cX4_calculate 68 = .ok (.lconst 1, 1) := by decide +kernel
theorem dX4_calculate_69 : decode cX4_calculate 69 = .ok (.lsub, 1) := by decide +kernel
theorem dX4_calculate_70 : decode cX4_calculate 70 = .ok (.ladd, 1) := by decide +kernel
theorem dX4_calculate_71 : decode cX4_calculate 71 = .ok (.putfield 70, 3) := by decide +kernel
theorem dX4_calculate_74 : decode cX4_calculate 74 = .ok (.aload_n 0, 1) := by decide +kernel
theorem dX4_calculate_75 : decode cX4_calculate 75 = .ok (.aload_n 0, 1) := by decide +kernel
theorem dX4_calculate_76 : decode cX4_calculate 76 = .ok (.getfield 70, 3) := by decide +kernel
theorem dX4_calculate_79 : decode cX4_calculate 79 = .ok (.lneg, 1) := by decide +kernel
theorem dX4_calculate_80 : decode cX4_calculate 80 = .ok (.lconst 1, 1) := by decide +kernel
theorem dX4_calculate_81 : decode cX4_calculate 81 = .ok (.lsub, 1) := by decide +kernel
theorem dX4_calculate_82 : decode cX4_calculate 82 = .ok (.putfield 74, 3) := by decide +kernel
theorem dX4_calculate_85 : decode cX4_calculate 85 = .ok (.iload_n 1, 1) := by decide +kernel
theorem dX4_calculate_86 : decode cX4_calculate 86 = .ok (.bipush 6, 2) := by decide +kernel
theorem dX4_calculate_88 : decode cX4_calculate 88 = .ok (.if_icmp .eq 19, 3) := by decide +kernel
theorem dX4_calculate_91 : decode cX4_calculate 91 = .ok (.aload_n 0, 1) := by decide +kernel
theorem dX4_calculate_92 : decode cX4_calculate 92 = .ok (.iload_n 1, 1) := by decide +kernel
theorem dX4_calculate_93 : decode cX4_calculate 93 = .ok (.lload 6, 2) := by decide +kernel
theorem dX4_calculate_95 : decode cX4_calculate 95 = .ok (.lload 8, 2) := by decide +kernel
theorem dX4_calculate_97 : decode cX4_calculate 97 = .ok (.lload 10, 2) := by decide +kernel
theorem dX4_calculate_99 : decode cX4_calculate 99 = .ok (.lload 12, 2) := by decide +kernel
theorem dX4_calculate_101 : decode cX4_calculate 101 = .ok (.invokevirtual 83, 3) := by decide +kernel
theorem dX4_calculate_104 : decode cX4_calculate 104 = .ok (.goto 88, 3) := by decide +kernel
theorem dX4_calculate_107 : decode cX4_calculate 107 = .ok (.lload 10, 2) := by decide +kernel
theorem dX4_calculate_109 : decode cX4_calculate 109 = .ok (.lconst 0, 1) := by decide +kernel
theorem dX4_calculate_110 : decode cX4_calculate 110 = .ok (.lcmp, 1) := by decide +kernel
theorem dX4_calculate_111 : decode cX4_calculate 111 = .ok (.ifCond .ge 29, 3) := by decide +kernel
theorem dX4_calculate_114 : decode cX4_calculate 114 = .ok (.aload_n 0, 1) := by decide +kernel
theorem dX4_calculate_115 : decode cX4_calculate 115 = .ok (.iload_n 1, 1) := by decide +kernel
theorem dX4_calculate_116 : decode cX4_calculate 116 = .ok (.lload 6, 2) := by decide +kernel
theorem dX4_calculate_118 : decode cX4_calculate 118 = .ok (.lload 8, 2) := by decide +kernel
theorem dX4_calculate_120 : decode cX4_calculate 120 = .ok (.lload 10, 2) := by decide +kernel
theorem dX4_calculate_122 : decode cX4_calculate 122 = .ok (.lload 12, 2) := by decide +kernel
theorem dX4_calculate_124 : decode cX4_calculate 124 = .ok (.lconst 0, 1) := by decide +kernel
theorem dX4_calculate_125 : decode cX4_calculate 125 = .ok (.lcmp, 1) := by decide +kernel
theorem dX4_calculate_126 : decode cX4_calculate 126 = .ok (.ifCond .ge 8, 3) := by decide +kernel
theorem dX4_calculate_129 : decode cX4_calculate 129 = .ok (.lload 12, 2) := by decide +kernel
theorem dX4_calculate_131 : decode cX4_calculate 131 = .ok (.goto 6, 3) := by decide +kernel
theorem dX4_calculate_134 : decode cX4_calculate 134 = .ok (.ldc2_w 87, 3) := by decide +kernel
theorem dX4_calculate_137 : decode cX4_calculate 137 = .ok (.invokevirtual 83, 3) := by decide +kernel
theorem dX4_calculate_140 : decode cX4_calculate 140 = .ok (.lload 12, 2) := by decide +kernel
theorem dX4_calculate_142 : decode cX4_calculate 142 = .ok (.lconst 0, 1) := by decide +kernel
theorem dX4_calculate_143 : decode cX4_calculate 143 = .ok (.lcmp, 1) := by decide +kernel
theorem dX4_calculate_144 : decode cX4_calculate 144 = .ok (.ifCond .le 27, 3) := by decide +kernel
theorem dX4_calculate_147 : decode cX4_calculate 147 = .ok (.aload_n 0, 1) := by decide +kernel
theorem dX4_calculate_148 : decode cX4_calculate 148 = .ok (.iload_n 1, 1) := by decide +kernel
theorem dX4_calculate_149 : decode cX4_calculate 149 = .ok (.lload 6, 2) := by decide +kernel
theorem dX4_calculate_151 : decode cX4_calculate 151 = .ok (.lload 8, 2) := by decide +kernel
theorem dX4_calculate_153 : decode cX4_calculate 153 = .ok (.lload 10, 2) := by decide +kernel
theorem dX4_calculate_155 : decode cX4_calculate 155 = .ok (.lconst 0, 1) := by decide +kernel
theorem dX4_calculate_156 : decode cX4_calculate 156 = .ok (.lcmp, 1) := by decide +kernel
theorem dX4_calculate_157 : decode cX4_calculate 157 = .ok (.ifCond .le 8, 3) := by decide +kernel
theorem dX4_calculate_160 : decode cX4_calculate 160 = .ok (.lload 10, 2) := by decide +kernel
theorem dX4_calculate_162 : decode cX4_calculate 162 = .ok (.goto 4, 3) := by decide +kernel
theorem dX4_calculate_165 : decode cX4_calculate 165 = .ok (.lconst 1, 1) := by decide +kernel
theorem dX4_calculate_166 : decode cX4_calculate 166 = .ok (.lload 12, 2) := by decide +kernel
theorem dX4_calculate_168 : decode cX4_calculate 168 = .ok (.invokevirtual 83, 3) := by decide +kernel
theorem dX4_calculate_171 : decode cX4_calculate 171 = .ok (.lload 10, 2) := by decide +kernel
theorem dX4_calculate_173 : decode cX4_calculate 173 = .ok (.lconst 0, 1) := by decide +kernel
theorem dX4_calculate_174 : decode cX4_calculate 174 = .ok (.lcmp, 1) := by decide +kernel
theorem dX4_calculate_175 : decode cX4_calculate 175 = .ok (.ifCond .ne 17, 3) := by decide +kernel
theorem dX4_calculate_178 : decode cX4_calculate 178 = .ok (.lload 12, 2) := by decide +kernel
theorem dX4_calculate_180 : decode cX4_calculate 180 = .ok (.lconst 0, 1) := by decide +kernel
theorem dX4_calculate_181 : decode cX4_calculate 181 = .ok (.lcmp, 1) := by decide +kernel
theorem dX4_calculate_182 : decode cX4_calculate 182 = .ok (.ifCond .ne 10, 3) := by decide +kernel
theorem dX4_calculate_185 : decode cX4_calculate 185 = .ok (.aload_n 0, 1) := by decide +kernel
theorem dX4_calculate_186 : decode cX4_calculate 186 = .ok (.getfield 33, 3) := by decide +kernel
theorem dX4_calculate_189 : decode cX4_calculate 189 = .ok (.iconst 0, 1) := by decide +kernel
theorem dX4_calculate_190 : decode cX4_calculate 190 = .ok (.iconst 0, 1) := by decide +kernel
theorem dX4_calculate_191 : decode cX4_calculate 191 = .ok (.bastore, 1) := by decide +kernel
theorem dX4_calculate_192 : decode cX4_calculate 192 = .ok (.aload_n 0, 1) := by decide +kernel
theorem dX4_calculate_193 : decode cX4_calculate 193 = .ok (.getfield 33, 3) := by decide +kernel
theorem dX4_calculate_196 : decode cX4_calculate 196 = .ok (.iconst 0, 1) := by decide +kernel
theorem dX4_calculate_197 : decode cX4_calculate 197 = .ok (.baload, 1) := by decide +kernel
theorem dX4_calculate_198 : decode cX4_calculate 198 = .ok (.ifCond .eq 16, 3) := by decide +kernel
theorem dX4_calculate_201 : decode cX4_calculate 201 = .ok (.aload_n 0, 1) := by decide +kernel
theorem dX4_calculate_202 : decode cX4_calculate 202 = .ok (.iload_n 3, 1) := by decide +kernel
theorem dX4_calculate_203 : decode cX4_calculate 203 = .ok (.aload_n 0, 1) := by decide +kernel
theorem dX4_calculate_204 : decode cX4_calculate 204 = .ok (.getfield 70, 3) := by decide +kernel
theorem dX4_calculate_207 : decode cX4_calculate 207 = .ok (.aload_n 0, 1) := by decide +kernel
theorem dX4_calculate_208 : decode cX4_calculate 208 = .ok (.getfield 74, 3) := by decide +kernel
theorem dX4_calculate_211 : decode cX4_calculate 211 = .ok (.invokevirtual 89, 3) := by decide +kernel
theorem dX4_calculate_214 : decode cX4_calculate 214 = .ok (.return_, 1) := by decide +kernel
theorem dX4_compare_0 : decode cX4_compare 0 = .ok (.iload_n 2, 1) := by decide +kernel
