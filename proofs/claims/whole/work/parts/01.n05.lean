theorem dX4_readContract_70 : decode cX4_readContract 70 = .ok (.bipush 45, 2) := by decide +kernel
theorem dX4_readContract_72 : decode cX4_readContract 72 = .ok (.invokevirtual 56, 3) := by decide +kernel
theorem dX4_readContract_75 : decode cX4_readContract 75 = .ok (.ifCond .eq 10, 3) := by decide +kernel
theorem dX4_readContract_78 : decode cX4_readContract 78 = .ok (.aload_n 0, 1) := by decide +kernel
theorem dX4_readContract_79 : decode cX4_readContract 79 = .ok (.invokevirtual 73, 3) := by decide +kernel
theorem dX4_readContract_82 : decode cX4_readContract 82 = .ok (.ifCond .ne 5, 3) := by decide +kernel
theorem dX4_readContract_85 : decode cX4_readContract 85 = .ok (.iconst 0, 1) := by decide +kernel
theorem dX4_readContract_86 : decode cX4_readContract 86 = .ok (.ireturn, 1) := by decide +kernel
theorem dX4_readContract_87 : decode cX4_readContract 87 = .ok (.aload_n 0, 1) := by decide +kernel
theorem dX4_readContract_88 : decode cX4_readContract 88 = .ok (.aload_n 0, 1) := by decide +kernel
theorem dX4_readContract_89 : decode cX4_readContract 89 = .ok (.getfield 15, 3) := by decide +kernel
theorem dX4_readContract_92 : decode cX4_readContract 92 = .ok (.putfield 37, 3) := by decide +kernel
theorem dX4_readContract_95 : decode cX4_readContract 95 = .ok (.iconst 1, 1) := by decide +kernel
theorem dX4_readContract_96 : decode cX4_readContract 96 = .ok (.ireturn, 1) := by decide +kernel
set_option maxRecDepth 20000 in
theorem ggX4_readSign_X3_signAt : GoodIn wsX4_readSign wsX3_signAt := goodIn_r _ [6, 7, 8, 19, 20] (by decide +kernel) (by decide +kernel)
set_option maxRecDepth 20000 in
theorem gX4_readSign_X3_signAt_n60 : GoodIn wsX4_readSign (wsX3_signAt) := ggX4_readSign_X3_signAt
theorem dX4_readSign_0 : decode cX4_readSign 0 = .ok (.aload_n 0, 1) := by decide +kernel
theorem dX4_readSign_1 : decode cX4_readSign 1 = .ok (.getfield 40, 3) := by decide +kernel
theorem dX4_readSign_4 : decode cX4_readSign 4 = .ok (.aload_n 0, 1) := by decide +kernel
theorem dX4_readSign_5 : decode cX4_readSign 5 = .ok (.getfield 9, 3) := by decide +kernel
theorem dX4_readSign_8 : decode cX4_readSign 8 = .ok (.invokevirtual 60, 3) := by decide +kernel
theorem dX4_readSign_11 : decode cX4_readSign 11 = .ok (.iload_n 1, 1) := by decide +kernel
theorem dX4_readSign_12 : decode cX4_readSign 12 = .ok (.if_icmp .eq 5, 3) := by decide +kernel
theorem dX4_readSign_15 : decode cX4_readSign 15 = .ok (.iconst 0, 1) := by decide +kernel
theorem dX4_readSign_16 : decode cX4_readSign 16 = .ok (.ireturn, 1) := by decide +kernel
theorem dX4_readSign_17 : decode cX4_readSign 17 = .ok (.aload_n 0, 1) := by decide +kernel
theorem dX4_readSign_18 : decode cX4_readSign 18 = .ok (.dup, 1) := by decide +kernel
theorem dX4_readSign_19 : decode cX4_readSign 19 = .ok (.getfield 9, 3) := by decide +kernel
theorem dX4_readSign_22 : decode cX4_readSign 22 = .ok (.iconst 1, 1) := by decide +kernel
theorem dX4_readSign_23 : decode cX4_readSign 23 = .ok (.iadd, 1) := by decide +kernel
theorem dX4_readSign_24 : decode cX4_readSign 24 = .ok (.putfield 9, 3) := by decide +kernel
theorem dX4_readSign_27 : decode cX4_readSign 27 = .ok (.iconst 1, 1) := by decide +kernel
theorem dX4_readSign_28 : decode cX4_readSign 28 = .ok (.ireturn, 1) := by decide +kernel
set_option maxRecDepth 20000 in
theorem ggX4_readNumber_X3_signAt : GoodIn wsX4_readNumber wsX3_signAt := goodIn_r _ [7, 8, 9, 24, 25] (by decide +kernel) (by decide +kernel)
set_option maxRecDepth 20000 in
theorem gX4_readNumber_X3_signAt_n60 : GoodIn wsX4_readNumber (wsX3_signAt) := ggX4_readNumber_X3_signAt
set_option maxRecDepth 20000 in
theorem ggX4_readNumber_X4_isDigit : GoodIn wsX4_readNumber wsX4_isDigit := goodIn_r _ [13] (by decide +kernel) (by decide +kernel)
set_option maxRecDepth 20000 in
theorem gX4_readNumber_X4_isDigit : GoodIn wsX4_readNumber (va_wsS RX4 76 yX4_isDigit wsX4_isDigit) := goodIn_app (goodIn_of _ (by decide +kernel)) ggX4_readNumber_X4_isDigit
theorem dX4_readNumber_0 : decode cX4_readNumber 0 = .ok (.aload_n 0, 1) := by decide +kernel
theorem dX4_readNumber_1 : decode cX4_readNumber 1 = .ok (.getfield 40, 3) := by decide +kernel
theorem dX4_readNumber_4 : decode cX4_readNumber 4 = .ok (.aload_n 0, 1) := by decide +kernel
theorem dX4_readNumber_5 : decode cX4_readNumber 5 = .ok (.getfield 9, 3) := by decide +kernel
theorem dX4_readNumber_8 : decode cX4_readNumber 8 = .ok (.invokevirtual 60, 3) := by decide +kernel
theorem dX4_readNumber_11 : decode cX4_readNumber 11 = .ok (.invokestatic 76, 3) := by decide +kernel
theorem dX4_readNumber_14 : decode cX4_readNumber 14 = .ok (.ifCond .ne 5, 3) := by decide +kernel
theorem dX4_readNumber_17 : decode cX4_readNumber 17 = .ok (.iconst 0, 1) := by decide +kernel
theorem dX4_readNumber_18 : decode cX4_readNumber 18 = .ok (.ireturn, 1) := by decide +kernel
theorem dX4_readNumber_19 : decode cX4_readNumber 19 = .ok (.aload_n 0, 1) := by decide +kernel
theorem dX4_readNumber_20 : decode cX4_readNumber 20 = .ok (.iconst 0, 1) := by decide +kernel
theorem dX4_readNumber_21 : decode cX4_readNumber 21 = .ok (.putfield 15, 3) := by decide +kernel
theorem dX4_readNumber_24 : decode cX4_readNumber 24 = .ok (.iconst 0, 1) := by decide +kernel
theorem dX4_readNumber_25 : decode cX4_readNumber 25 = .ok (.istore_n 1, 1) := by decide +kernel
theorem dX4_readNumber_26 : decode cX4_readNumber 26 = .ok (.iload_n 1, 1) := by decide +kernel
theorem dX4_readNumber_27 : decode cX4_readNumber 27 = .ok (.iconst 3, 1) := by decide +kernel
theorem dX4_readNumber_28 : decode cX4_readNumber 28 = .ok (.if_icmp .ge 75, 3) := by decide +kernel
theorem dX4_readNumber_31 : decode cX4_readNumber 31 = .ok (.aload_n 0, 1) := by decide +kernel
theorem dX4_readNumber_32 : decode cX4_readNumber 32 = .ok (.getfield 40, 3) := by decide +kernel
theorem dX4_readNumber_35 : decode cX4_readNumber 35 = .ok (.aload_n 0, 1) := by decide +kernel
theorem dX4_readNumber_36 : decode cX4_readNumber 36 = .ok (.getfield 9, 3) := by decide +kernel
theorem dX4_readNumber_39 : decode cX4_readNumber 39 = .ok (.invokevirtual 60, 3) := by decide +kernel
theorem dX4_readNumber_42 : decode cX4_readNumber 42 = .ok (.invokestatic 76, 3) := by decide +kernel
theorem dX4_readNumber_45 : decode cX4_readNumber 45 = .ok (.ifCond .eq 58, 3) := by decide +kernel
theorem dX4_readNumber_48 : decode cX4_readNumber 48 = .ok (.iload_n 1, 1) := by decide +kernel
theorem dX4_readNumber_49 : decode cX4_readNumber 49 = .ok (.ifCond .le 12, 3) := by decide +kernel
theorem dX4_readNumber_52 : decode cX4_readNumber 52 = .ok (.aload_n 0, 1) := by decide +kernel
theorem dX4_readNumber_53 : decode cX4_readNumber 53 = .ok (.getfield 15, 3) := by decide +kernel
theorem dX4_readNumber_56 : decode cX4_readNumber 56 = .ok (.ifCond .ne 5, 3) := by decide +kernel
theorem dX4_readNumber_59 : decode cX4_readNumber 59 = .ok (.iconst 1, 1) := by decide +kernel
theorem dX4_readNumber_60 : decode cX4_readNumber 60 = .ok (.ireturn, 1) := by decide +kernel
theorem dX4_readNumber_61 : decode cX4_readNumber 61 = .ok (.aload_n 0, 1) := by decide +kernel
theorem dX4_readNumber_62 : decode cX4_readNumber 62 = .ok (.aload_n 0, 1) := by decide +kernel
theorem dX4_readNumber_63 : decode cX4_readNumber 63 = .ok (.getfield 15, 3) := by decide +kernel
theorem dX4_readNumber_66 : decode cX4_readNumber 66 = .ok (.bipush 10, 2) := by decide +kernel
theorem dX4_readNumber_68 : decode cX4_readNumber 68 = .ok (.imul, 1) := by decide +kernel
theorem dX4_readNumber_69 : decode cX4_readNumber 69 = .ok (.aload_n 0, 1) := by decide +kernel
theorem dX4_readNumber_70 : decode cX4_readNumber 70 = .ok (.getfield 40, 3) := by decide +kernel
theorem dX4_readNumber_73 : decode cX4_readNumber 73 = .ok (.aload_n 0, 1) := by decide +kernel
theorem dX4_readNumber_74 : decode cX4_readNumber 74 = .ok (.getfield 9, 3) := by decide +kernel
theorem dX4_readNumber_77 : decode cX4_readNumber 77 = .ok (.invokevirtual 60, 3) := by decide +kernel
theorem dX4_readNumber_80 : decode cX4_readNumber 80 = .ok (.bipush 48, 2) := by decide +kernel
theorem dX4_readNumber_82 : decode cX4_readNumber 82 = .ok (.isub, 1) := by decide +kernel
theorem dX4_readNumber_83 : decode cX4_readNumber 83 = .ok (.iadd, 1) := by decide +kernel
theorem dX4_readNumber_84 : decode cX4_readNumber 84 = .ok (.putfield 15, 3) := by decide +kernel
theorem dX4_readNumber_87 : decode cX4_readNumber 87 = .ok (.aload_n 0, 1) := by decide +kernel
theorem dX4_readNumber_88 : decode cX4_readNumber 88 = .ok (.dup, 1) := by decide +kernel
theorem dX4_readNumber_89 : decode cX4_readNumber 89 = .ok (.getfield 9, 3) := by decide +kernel
theorem dX4_readNumber_92 : decode cX4_readNumber 92 = .ok (.iconst 1, 1) := by decide +kernel
theorem dX4_readNumber_93 : decode cX4_readNumber 93 = .ok (.iadd, 1) := by decide +kernel
theorem dX4_readNumber_94 : decode cX4_readNumber 94 = .ok (.putfield 9, 3) := by decide +kernel
theorem dX4_readNumber_97 : decode cX4_readNumber 97 = .ok (.iinc 1 1, 3) := by decide +kernel
theorem dX4_readNumber_100 : decode cX4_readNumber 100 = .ok (.goto (-74), 3) := by decide +kernel
theorem dX4_readNumber_103 : decode cX4_readNumber 103 = .ok (.iconst 1, 1) := by decide +kernel
theorem dX4_readNumber_104 : decode cX4_readNumber 104 = .ok (.ireturn, 1) := by decide +kernel
theorem dX4_isDigit_0 : decode cX4_isDigit 0 = .ok (.iload_n 0, 1) := by decide +kernel
theorem dX4_isDigit_1 : decode cX4_isDigit 1 = .ok (.bipush 48, 2) := by decide +kernel
theorem dX4_isDigit_3 : decode cX4_isDigit 3 = .ok (.if_icmp .lt 13, 3) := by decide +kernel
theorem dX4_isDigit_6 : decode cX4_isDigit 6 = .ok (.iload_n 0, 1) := by decide +kernel
theorem dX4_isDigit_7 : decode cX4_isDigit 7 = .ok (.bipush 57, 2) := by decide +kernel
theorem dX4_isDigit_9 : decode cX4_isDigit 9 = .ok (.if_icmp .gt 7, 3) := by decide +kernel
theorem dX4_isDigit_12 : decode cX4_isDigit 12 = .ok (.iconst 1, 1) := by decide +kernel
theorem dX4_isDigit_13 : decode cX4_isDigit 13 = .ok (.goto 4, 3) := by decide +kernel
theorem dX4_isDigit_16 : decode cX4_isDigit 16 = .ok (.iconst 0, 1) := by decide +kernel
theorem dX4_isDigit_17 : decode cX4_isDigit 17 = .ok (.ireturn, 1) := by decide +kernel
theorem dX5_init_0 : decode cX5_init 0 = .ok (.aload_n 0, 1) := by decide +kernel
theorem dX5_init_1 : decode cX5_init 1 = .ok (.invokespecial 3, 3) := by decide +kernel
theorem dX5_init_4 : decode cX5_init 4 = .ok (.aload_n 0, 1) := by decide +kernel
theorem dX5_init_5 : decode cX5_init 5 = .ok (.bipush 25, 2) := by decide +kernel
theorem dX5_init_7 : decode cX5_init 7 = .ok (.sipush 201, 3) := by decide +kernel
theorem dX5_init_10 : decode cX5_init 10 = .ok (.multianewarray 9 2, 4) := by decide +kernel
theorem dX5_init_14 : decode cX5_init 14 = .ok (.putfield 11, 3) := by decide +kernel
theorem dX5_init_17 : decode cX5_init 17 = .ok (.aload_n 0, 1) := by decide +kernel
theorem dX5_init_18 : decode cX5_init 18 = .ok (.bipush 31, 2) := by decide +kernel
theorem dX5_init_20 : decode cX5_init 20 = .ok (.newarray .int, 2) := by decide +kernel
theorem dX5_init_22 : decode cX5_init 22 = .ok (.putfield 16, 3) := by decide +kernel
theorem dX5_init_25 : decode cX5_init 25 = .ok (.aload_n 0, 1) := by decide +kernel
theorem dX5_init_26 : decode cX5_init 26 = .ok (.bipush 24, 2) := by decide +kernel
theorem dX5_init_28 : decode cX5_init 28 = .ok (.newarray .int, 2) := by decide +kernel
theorem dX5_init_30 : decode cX5_init 30 = .ok (.putfield 20, 3) := by decide +kernel
theorem dX5_init_33 : decode cX5_init 33 = .ok (.aload_n 0, 1) := by decide +kernel
theorem dX5_init_34 : decode cX5_init 34 = .ok (.iconst 0, 1) := by decide +kernel
theorem dX5_init_35 : decode cX5_init 35 = .ok (.putfield 23, 3) := by decide +kernel
theorem dX5_init_38 : decode cX5_init 38 = .ok (.aload_n 0, 1) := by decide +kernel
theorem dX5_init_39 : decode cX5_init 39 = .ok (.iconst (-1), 1) := by decide +kernel
theorem dX5_init_40 : decode cX5_init 40 = .ok (.putfield 27, 3) := by decide +kernel
theorem dX5_init_43 : decode cX5_init 43 = .ok (.aload_n 0, 1) := by decide +kernel
theorem dX5_init_44 : decode cX5_init 44 = .ok (.bipush 31, 2) := by decide +kernel
theorem dX5_init_46 : decode cX5_init 46 = .ok (.newarray .int, 2) := by decide +kernel
theorem dX5_init_48 : decode cX5_init 48 = .ok (.putfield 31, 3) := by decide +kernel
theorem dX5_init_51 : decode cX5_init 51 = .ok (.aload_n 0, 1) := by decide +kernel
theorem dX5_init_52 : decode cX5_init 52 = .ok (.sipush 330, 3) := by decide +kernel
theorem dX5_init_55 : decode cX5_init 55 = .ok (.newarray .int, 2) := by decide +kernel
theorem dX5_init_57 : decode cX5_init 57 = .ok (.putfield 34, 3) := by decide +kernel
theorem dX5_init_60 : decode cX5_init 60 = .ok (.aload_n 0, 1) := by decide +kernel
theorem dX5_init_61 : decode cX5_init 61 = .ok (.sipush 330, 3) := by decide +kernel
theorem dX5_init_64 : decode cX5_init 64 = .ok (.newarray .int, 2) := by decide +kernel
theorem dX5_init_66 : decode cX5_init 66 = .ok (.putfield 37, 3) := by decide +kernel
theorem dX5_init_69 : decode cX5_init 69 = .ok (.aload_n 0, 1) := by decide +kernel
theorem dX5_init_70 : decode cX5_init 70 = .ok (.aload_n 1, 1) := by decide +kernel
theorem dX5_init_71 : decode cX5_init 71 = .ok (.putfield 40, 3) := by decide +kernel
theorem dX5_init_74 : decode cX5_init 74 = .ok (.return_, 1) := by decide +kernel
set_option maxRecDepth 20000 in
theorem ggX5_solve_X2_settingOf : GoodIn wsX5_solve wsX2_settingOf := goodIn_r _ [9, 10, 115, 116] (by decide +kernel) (by decide +kernel)
set_option maxRecDepth 20000 in
theorem gX5_solve_X2_settingOf_n49 : GoodIn wsX5_solve (wsX2_settingOf) := ggX5_solve_X2_settingOf
set_option maxRecDepth 20000 in
theorem ggX5_solve_X2_lossOf : GoodIn wsX5_solve wsX2_lossOf := goodIn_r _ [13, 10, 115, 116] (by decide +kernel) (by decide +kernel)
set_option maxRecDepth 20000 in
theorem gX5_solve_X2_lossOf_n54 : GoodIn wsX5_solve (wsX2_lossOf) := ggX5_solve_X2_lossOf
set_option maxRecDepth 20000 in
theorem ggX5_solve_X5_lookAt : GoodIn wsX5_solve wsX5_lookAt := goodIn_r _ [18, 19, 2, 20, 21, 22, 7, 23, 24, 10, 25, 26, 27, 28, 29, 30, 31, 32, 33, 34, 35, 36, 37, 38, 39, 40, 41, 42, 43, 44, 45, 46, 17, 47, 4, 3, 6, 8, 9, 48, 49, 50, 51, 52, 53, 54, 55, 56, 57, 106, 107, 108, 109, 110, 111, 112, 113, 114, 115, 116] (by decide +kernel) (by decide +kernel)
set_option maxRecDepth 20000 in
theorem gX5_solve_X5_lookAt : GoodIn wsX5_solve (wsV RX5 57 RX5 yX5_lookAt wsX5_lookAt) := goodIn_app (goodIn_of _ (by decide +kernel)) ggX5_solve_X5_lookAt
set_option maxRecDepth 20000 in
theorem ggX5_solve_X5_solveHour : GoodIn wsX5_solve wsX5_solveHour := goodIn_r _ [61, 2, 62, 52, 42, 53, 3, 63, 41, 43, 64, 65, 66, 6, 7, 8, 9, 10, 26, 27, 28, 67, 68, 69, 70, 71, 72, 17, 73, 4, 5, 21, 74, 75, 76, 77, 20, 19, 106, 107, 108, 109, 110, 111, 112, 113, 114, 115, 116] (by decide +kernel) (by decide +kernel)
set_option maxRecDepth 20000 in
theorem gX5_solve_X5_solveHour : GoodIn wsX5_solve (wsV RX5 61 RX5 yX5_solveHour wsX5_solveHour) := goodIn_app (goodIn_of _ (by decide +kernel)) ggX5_solve_X5_solveHour
set_option maxRecDepth 20000 in
theorem ggX5_solve_X5_choosePlan : GoodIn wsX5_solve wsX5_choosePlan := goodIn_r _ [81, 2, 4, 82, 83, 6, 7, 8, 9, 10, 44, 45, 46, 17, 47, 3, 14, 15, 16, 18, 19, 20, 21, 22, 23, 24, 25, 26, 27, 28, 29, 30, 31, 32, 33, 34, 35, 36, 37, 38, 39, 40, 41, 42, 43, 48, 49, 50, 51, 52, 53, 54, 55, 56, 57, 84, 85, 86, 87, 88, 89, 90, 91, 92, 93, 11, 12, 13, 94, 67, 68, 69, 95, 96, 97, 98, 99, 100, 101, 102, 103, 104, 105, 106, 107, 108, 109, 110, 111, 112, 113, 114, 115, 116] (by decide +kernel) (by decide +kernel)
set_option maxRecDepth 20000 in
theorem gX5_solve_X5_choosePlan : GoodIn wsX5_solve (wsV RX5 64 RX5 yX5_choosePlan wsX5_choosePlan) := goodIn_app (goodIn_of _ (by decide +kernel)) ggX5_solve_X5_choosePlan
theorem dX5_solve_0 : decode cX5_solve 0 = .ok (.aload_n 0, 1) := by decide +kernel
theorem dX5_solve_1 : decode cX5_solve 1 = .ok (.getfield 27, 3) := by decide +kernel
theorem dX5_solve_4 : decode cX5_solve 4 = .ok (.aload_n 0, 1) := by decide +kernel
theorem dX5_solve_5 : decode cX5_solve 5 = .ok (.getfield 40, 3) := by decide +kernel
theorem dX5_solve_8 : decode cX5_solve 8 = .ok (.getfield 44, 3) := by decide +kernel
theorem dX5_solve_11 : decode cX5_solve 11 = .ok (.if_icmp .ne 4, 3) := by decide +kernel
theorem dX5_solve_14 : decode cX5_solve 14 = .ok (.return_, 1) := by decide +kernel
theorem dX5_solve_15 : decode cX5_solve 15 = .ok (.aload_n 0, 1) := by decide +kernel
theorem dX5_solve_16 : decode cX5_solve 16 = .ok (.aload_n 0, 1) := by decide +kernel
theorem dX5_solve_17 : decode cX5_solve 17 = .ok (.getfield 40, 3) := by decide +kernel
theorem dX5_solve_20 : decode cX5_solve 20 = .ok (.getfield 44, 3) := by decide +kernel
theorem dX5_solve_23 : decode cX5_solve 23 = .ok (.putfield 27, 3) := by decide +kernel
theorem dX5_solve_26 : decode cX5_solve 26 = .ok (.iconst 0, 1) := by decide +kernel
theorem dX5_solve_27 : decode cX5_solve 27 = .ok (.istore_n 1, 1) := by decide +kernel
theorem dX5_solve_28 : decode cX5_solve 28 = .ok (.iload_n 1, 1) := by decide +kernel
theorem dX5_solve_29 : decode cX5_solve 29 = .ok (.sipush 200, 3) := by decide +kernel
theorem dX5_solve_32 : decode cX5_solve 32 = .ok (.if_icmp .gt 37, 3) := by decide +kernel
theorem dX5_solve_35 : decode cX5_solve 35 = .ok (.aload_n 0, 1) := by decide +kernel
theorem dX5_solve_36 : decode cX5_solve 36 = .ok (.getfield 11, 3) := by decide +kernel
theorem dX5_solve_39 : decode cX5_solve 39 = .ok (.bipush 24, 2) := by decide +kernel
theorem dX5_solve_41 : decode cX5_solve 41 = .ok (.aaload, 1) := by decide +kernel
theorem dX5_solve_42 : decode cX5_solve 42 = .ok (.iload_n 1, 1) := by decide +kernel
theorem dX5_solve_43 : decode cX5_solve 43 = .ok (.iload_n 1, 1) := by decide +kernel
theorem dX5_solve_44 : decode cX5_solve 44 = .ok (.aload_n 0, 1) := by decide +kernel
theorem dX5_solve_45 : decode cX5_solve 45 = .ok (.getfield 40, 3) := by decide +kernel
theorem dX5_solve_48 : decode cX5_solve 48 = .ok (.bipush 8, 2) := by decide +kernel
theorem dX5_solve_50 : decode cX5_solve 50 = .ok (.invokevirtual 49, 3) := by decide +kernel
theorem dX5_solve_53 : decode cX5_solve 53 = .ok (.if_icmp .lt 7, 3) := by decide +kernel
theorem dX5_solve_56 : decode cX5_solve 56 = .ok (.iconst 0, 1) := by decide +kernel
theorem dX5_solve_57 : decode cX5_solve 57 = .ok (.goto 5, 3) := by decide +kernel
theorem dX5_solve_60 : decode cX5_solve 60 = .ok (.ldc 53, 2) := by decide +kernel
theorem dX5_solve_62 : decode cX5_solve 62 = .ok (.iastore, 1) := by decide +kernel
theorem dX5_solve_63 : decode cX5_solve 63 = .ok (.iinc 1 1, 3) := by decide +kernel
theorem dX5_solve_66 : decode cX5_solve 66 = .ok (.goto (-38), 3) := by decide +kernel
theorem dX5_solve_69 : decode cX5_solve 69 = .ok (.iconst 0, 1) := by decide +kernel
theorem dX5_solve_70 : decode cX5_solve 70 = .ok (.istore_n 1, 1) := by decide +kernel
theorem dX5_solve_71 : decode cX5_solve 71 = .ok (.iload_n 1, 1) := by decide +kernel
theorem dX5_solve_72 : decode cX5_solve 72 = .ok (.bipush 30, 2) := by decide +kernel
theorem dX5_solve_74 : decode cX5_solve 74 = .ok (.if_icmp .gt 25, 3) := by decide +kernel
theorem dX5_solve_77 : decode cX5_solve 77 = .ok (.aload_n 0, 1) := by decide +kernel
theorem dX5_solve_78 : decode cX5_solve 78 = .ok (.getfield 16, 3) := by decide +kernel
theorem dX5_solve_81 : decode cX5_solve 81 = .ok (.iload_n 1, 1) := by decide +kernel
theorem dX5_solve_82 : decode cX5_solve 82 = .ok (.iload_n 1, 1) := by decide +kernel
theorem dX5_solve_83 : decode cX5_solve 83 = .ok (.aload_n 0, 1) := by decide +kernel
theorem dX5_solve_84 : decode cX5_solve 84 = .ok (.getfield 40, 3) := by decide +kernel
theorem dX5_solve_87 : decode cX5_solve 87 = .ok (.iload_n 1, 1) := by decide +kernel
theorem dX5_solve_88 : decode cX5_solve 88 = .ok (.invokevirtual 54, 3) := by decide +kernel
theorem dX5_solve_91 : decode cX5_solve 91 = .ok (.isub, 1) := by decide +kernel
theorem dX5_solve_92 : decode cX5_solve 92 = .ok (.iastore, 1) := by decide +kernel
theorem dX5_solve_93 : decode cX5_solve 93 = .ok (.iinc 1 1, 3) := by decide +kernel
theorem dX5_solve_96 : decode cX5_solve 96 = .ok (.goto (-25), 3) := by decide +kernel
theorem dX5_solve_99 : decode cX5_solve 99 = .ok (.bipush 23, 2) := by decide +kernel
theorem dX5_solve_101 : decode cX5_solve 101 = .ok (.istore_n 1, 1) := by decide +kernel
theorem dX5_solve_102 : decode cX5_solve 102 = .ok (.iload_n 1, 1) := by decide +kernel
theorem dX5_solve_103 : decode cX5_solve 103 = .ok (.ifCond .lt 19, 3) := by decide +kernel
theorem dX5_solve_106 : decode cX5_solve 106 = .ok (.aload_n 0, 1) := by decide +kernel
theorem dX5_solve_107 : decode cX5_solve 107 = .ok (.iload_n 1, 1) := by decide +kernel
theorem dX5_solve_108 : decode cX5_solve 108 = .ok (.invokevirtual 57, 3) := by decide +kernel
theorem dX5_solve_111 : decode cX5_solve 111 = .ok (.aload_n 0, 1) := by decide +kernel
theorem dX5_solve_112 : decode cX5_solve 112 = .ok (.iload_n 1, 1) := by decide +kernel
theorem dX5_solve_113 : decode cX5_solve 113 = .ok (.invokevirtual 61, 3) := by decide +kernel
theorem dX5_solve_116 : decode cX5_solve 116 = .ok (.iinc 1 (-1), 3) := by decide +kernel
theorem dX5_solve_119 : decode cX5_solve 119 = .ok (.goto (-17), 3) := by decide +kernel
theorem dX5_solve_122 : decode cX5_solve 122 = .ok (.aload_n 0, 1) := by decide +kernel
theorem dX5_solve_123 : decode cX5_solve 123 = .ok (.invokevirtual 64, 3) := by decide +kernel
theorem dX5_solve_126 : decode cX5_solve 126 = .ok (.return_, 1) := by decide +kernel
theorem dX5_mostFrom_0 : decode cX5_mostFrom 0 = .ok (.iload_n 1, 1) := by decide +kernel
theorem dX5_mostFrom_1 : decode cX5_mostFrom 1 = .ok (.ifCond .lt 20, 3) := by decide +kernel
theorem dX5_mostFrom_4 : decode cX5_mostFrom 4 = .ok (.iload_n 1, 1) := by decide +kernel
theorem dX5_mostFrom_5 : decode cX5_mostFrom 5 = .ok (.bipush 24, 2) := by decide +kernel
theorem dX5_mostFrom_7 : decode cX5_mostFrom 7 = .ok (.if_icmp .gt 14, 3) := by decide +kernel
theorem dX5_mostFrom_10 : decode cX5_mostFrom 10 = .ok (.iload_n 2, 1) := by decide +kernel
theorem dX5_mostFrom_11 : decode cX5_mostFrom 11 = .ok (.ifCond .lt 10, 3) := by decide +kernel
theorem dX5_mostFrom_14 : decode cX5_mostFrom 14 = .ok (.iload_n 2, 1) := by decide +kernel
theorem dX5_mostFrom_15 : decode cX5_mostFrom 15 = .ok (.sipush 200, 3) := by decide +kernel
theorem dX5_mostFrom_18 : decode cX5_mostFrom 18 = .ok (.if_icmp .le 6, 3) := by decide +kernel
theorem dX5_mostFrom_21 : decode cX5_mostFrom 21 = .ok (.ldc 53, 2) := by decide +kernel
theorem dX5_mostFrom_23 : decode cX5_mostFrom 23 = .ok (.ireturn, 1) := by decide +kernel
theorem dX5_mostFrom_24 : decode cX5_mostFrom 24 = .ok (.aload_n 0, 1) := by decide +kernel
theorem dX5_mostFrom_25 : decode cX5_mostFrom 25 = .ok (.getfield 11, 3) := by decide +kernel
theorem dX5_mostFrom_28 : decode cX5_mostFrom 28 = .ok (.iload_n 1, 1) := by decide +kernel
theorem dX5_mostFrom_29 : decode cX5_mostFrom 29 = .ok (.aaload, 1) := by decide +kernel
theorem dX5_mostFrom_30 : decode cX5_mostFrom 30 = .ok (.iload_n 2, 1) := by decide +kernel
theorem dX5_mostFrom_31 : decode cX5_mostFrom 31 = .ok (.iaload, 1) := by decide +kernel
theorem dX5_mostFrom_32 : decode cX5_mostFrom 32 = .ok (.ireturn, 1) := by decide +kernel
set_option maxRecDepth 20000 in
theorem ggX5_lookAt_X2_earnedBy : GoodIn wsX5_lookAt wsX2_earnedBy := goodIn_r _ [8, 9, 10, 11, 12, 6, 13, 14, 15, 16, 17, 18, 19, 20, 21, 58, 59] (by decide +kernel) (by decide +kernel)
set_option maxRecDepth 20000 in
theorem gX5_lookAt_X2_earnedBy_n67 : GoodIn wsX5_lookAt (wsX2_earnedBy) := ggX5_lookAt_X2_earnedBy
set_option maxRecDepth 20000 in
theorem ggX5_lookAt_X2_spilledOf : GoodIn wsX5_lookAt wsX2_spilledOf := goodIn_r _ [24, 9, 25, 26, 27, 28, 58, 59] (by decide +kernel) (by decide +kernel)
set_option maxRecDepth 20000 in
theorem gX5_lookAt_X2_spilledOf_n71 : GoodIn wsX5_lookAt (wsX2_spilledOf) := ggX5_lookAt_X2_spilledOf
set_option maxRecDepth 20000 in
theorem ggX5_lookAt_X5_mostFrom : GoodIn wsX5_lookAt wsX5_mostFrom := goodIn_r _ [33, 34, 35, 49, 50, 51, 52, 53, 54, 55, 56, 57] (by decide +kernel) (by decide +kernel)
set_option maxRecDepth 20000 in
theorem gX5_lookAt_X5_mostFrom : GoodIn wsX5_lookAt (wsV RX5 74 RX5 yX5_mostFrom wsX5_mostFrom) := goodIn_app (goodIn_of _ (by decide +kernel)) ggX5_lookAt_X5_mostFrom
set_option maxRecDepth 20000 in
theorem ggX5_lookAt_X2_settingOf : GoodIn wsX5_lookAt wsX2_settingOf := goodIn_r _ [38, 9, 58, 59] (by decide +kernel) (by decide +kernel)
set_option maxRecDepth 20000 in
theorem gX5_lookAt_X2_settingOf_n49 : GoodIn wsX5_lookAt (wsX2_settingOf) := ggX5_lookAt_X2_settingOf
set_option maxRecDepth 20000 in
theorem ggX5_lookAt_X2_letDownOf : GoodIn wsX5_lookAt wsX2_letDownOf := goodIn_r _ [41, 9, 42, 43, 27, 44, 25, 26, 28, 58, 59] (by decide +kernel) (by decide +kernel)
set_option maxRecDepth 20000 in
theorem gX5_lookAt_X2_letDownOf_n77 : GoodIn wsX5_lookAt (wsX2_letDownOf) := ggX5_lookAt_X2_letDownOf
set_option maxRecDepth 20000 in
theorem ggX5_lookAt_X5_mostWith : GoodIn wsX5_lookAt wsX5_mostWith := goodIn_r _ [48, 3, 34, 1, 49, 50, 51, 52, 53, 54, 55, 56, 57] (by decide +kernel) (by decide +kernel)
set_option maxRecDepth 20000 in
theorem gX5_lookAt_X5_mostWith : GoodIn wsX5_lookAt (wsV RX5 80 RX5 yX5_mostWith wsX5_mostWith) := goodIn_app (goodIn_of _ (by decide +kernel)) ggX5_lookAt_X5_mostWith
theorem dX5_lookAt_0 : decode cX5_lookAt 0 = .ok (.iconst 0, 1) := by decide +kernel
theorem dX5_lookAt_1 : decode cX5_lookAt 1 = .ok (.istore_n 2, 1) := by decide +kernel
theorem dX5_lookAt_2 : decode cX5_lookAt 2 = .ok (.iload_n 2, 1) := by decide +kernel
theorem dX5_lookAt_3 : decode cX5_lookAt 3 = .ok (.bipush 30, 2) := by decide +kernel
theorem dX5_lookAt_5 : decode cX5_lookAt 5 = .ok (.if_icmp .gt 24, 3) := by decide +kernel
theorem dX5_lookAt_8 : decode cX5_lookAt 8 = .ok (.aload_n 0, 1) := by decide +kernel
theorem dX5_lookAt_9 : decode cX5_lookAt 9 = .ok (.getfield 31, 3) := by decide +kernel
theorem dX5_lookAt_12 : decode cX5_lookAt 12 = .ok (.iload_n 2, 1) := by decide +kernel
theorem dX5_lookAt_13 : decode cX5_lookAt 13 = .ok (.aload_n 0, 1) := by decide +kernel
theorem dX5_lookAt_14 : decode cX5_lookAt 14 = .ok (.getfield 40, 3) := by decide +kernel
theorem dX5_lookAt_17 : decode cX5_lookAt 17 = .ok (.iload_n 1, 1) := by decide +kernel
theorem dX5_lookAt_18 : decode cX5_lookAt 18 = .ok (.iload_n 2, 1) := by decide +kernel
theorem dX5_lookAt_19 : decode cX5_lookAt 19 = .ok (.invokevirtual 67, 3) := by decide +kernel
theorem dX5_lookAt_22 : decode cX5_lookAt 22 = .ok (.iastore, 1) := by decide +kernel
theorem dX5_lookAt_23 : decode cX5_lookAt 23 = .ok (.iinc 2 1, 3) := by decide +kernel
theorem dX5_lookAt_26 : decode cX5_lookAt 26 = .ok (.goto (-24), 3) := by decide +kernel
theorem dX5_lookAt_29 : decode cX5_lookAt 29 = .ok (.iconst 0, 1) := by decide +kernel
theorem dX5_lookAt_30 : decode cX5_lookAt 30 = .ok (.istore_n 2, 1) := by decide +kernel
theorem dX5_lookAt_31 : decode cX5_lookAt 31 = .ok (.iload_n 2, 1) := by decide +kernel
theorem dX5_lookAt_32 : decode cX5_lookAt 32 = .ok (.sipush 329, 3) := by decide +kernel
theorem dX5_lookAt_35 : decode cX5_lookAt 35 = .ok (.if_icmp .gt 32, 3) := by decide +kernel
theorem dX5_lookAt_38 : decode cX5_lookAt 38 = .ok (.aload_n 0, 1) := by decide +kernel
theorem dX5_lookAt_39 : decode cX5_lookAt 39 = .ok (.getfield 34, 3) := by decide +kernel
theorem dX5_lookAt_42 : decode cX5_lookAt 42 = .ok (.iload_n 2, 1) := by decide +kernel
theorem dX5_lookAt_43 : decode cX5_lookAt 43 = .ok (.aload_n 0, 1) := by decide +kernel
theorem dX5_lookAt_44 : decode cX5_lookAt 44 = .ok (.iload_n 1, 1) := by decide +kernel
theorem dX5_lookAt_45 : decode cX5_lookAt 45 = .ok (.iconst 1, 1) := by decide +kernel
theorem dX5_lookAt_46 : decode cX5_lookAt 46 = .ok (.iadd, 1) := by decide +kernel
theorem dX5_lookAt_47 : decode cX5_lookAt 47 = .ok (.iload_n 2, 1) := by decide +kernel
theorem dX5_lookAt_48 : decode cX5_lookAt 48 = .ok (.aload_n 0, 1) := by decide +kernel
theorem dX5_lookAt_49 : decode cX5_lookAt 49 = .ok (.getfield 40, 3) := by decide +kernel
theorem dX5_lookAt_52 : decode cX5_lookAt 52 = .ok (.iload_n 2, 1) := by decide +kernel
theorem dX5_lookAt_53 : decode cX5_lookAt 53 = .ok (.invokevirtual 71, 3) := by decide +kernel
theorem dX5_lookAt_56 : decode cX5_lookAt 56 = .ok (.isub, 1) := by decide +kernel
theorem dX5_lookAt_57 : decode cX5_lookAt 57 = .ok (.invokevirtual 74, 3) := by decide +kernel
theorem dX5_lookAt_60 : decode cX5_lookAt 60 = .ok (.iastore, 1) := by decide +kernel
theorem dX5_lookAt_61 : decode cX5_lookAt 61 = .ok (.iinc 2 1, 3) := by decide +kernel
theorem dX5_lookAt_64 : decode cX5_lookAt 64 = .ok (.goto (-33), 3) := by decide +kernel
theorem dX5_lookAt_67 : decode cX5_lookAt 67 = .ok (.aload_n 0, 1) := by decide +kernel
theorem dX5_lookAt_68 : decode cX5_lookAt 68 = .ok (.getfield 40, 3) := by decide +kernel
theorem dX5_lookAt_71 : decode cX5_lookAt 71 = .ok (.iconst 4, 1) := by decide +kernel
theorem dX5_lookAt_72 : decode cX5_lookAt 72 = .ok (.invokevirtual 49, 3) := by decide +kernel
theorem dX5_lookAt_75 : decode cX5_lookAt 75 = .ok (.istore_n 2, 1) := by decide +kernel
theorem dX5_lookAt_76 : decode cX5_lookAt 76 = .ok (.iconst 0, 1) := by decide +kernel
theorem dX5_lookAt_77 : decode cX5_lookAt 77 = .ok (.istore_n 3, 1) := by decide +kernel
theorem dX5_lookAt_78 : decode cX5_lookAt 78 = .ok (.iload_n 3, 1) := by decide +kernel
theorem dX5_lookAt_79 : decode cX5_lookAt 79 = .ok (.sipush 329, 3) := by decide +kernel
theorem dX5_lookAt_82 : decode cX5_lookAt 82 = .ok (.if_icmp .gt 29, 3) := by decide +kernel
theorem dX5_lookAt_85 : decode cX5_lookAt 85 = .ok (.aload_n 0, 1) := by decide +kernel
theorem dX5_lookAt_86 : decode cX5_lookAt 86 = .ok (.getfield 37, 3) := by decide +kernel
theorem dX5_lookAt_89 : decode cX5_lookAt 89 = .ok (.iload_n 3, 1) := by decide +kernel
theorem dX5_lookAt_90 : decode cX5_lookAt 90 = .ok (.aload_n 0, 1) := by decide +kernel
theorem dX5_lookAt_91 : decode cX5_lookAt 91 = .ok (.iload_n 3, 1) := by decide +kernel
theorem dX5_lookAt_92 : decode cX5_lookAt 92 = .ok (.aload_n 0, 1) := by decide +kernel
theorem dX5_lookAt_93 : decode cX5_lookAt 93 = .ok (.getfield 40, 3) := by decide +kernel
theorem dX5_lookAt_96 : decode cX5_lookAt 96 = .ok (.iload_n 3, 1) := by decide +kernel
theorem dX5_lookAt_97 : decode cX5_lookAt 97 = .ok (.iload_n 2, 1) := by decide +kernel
theorem dX5_lookAt_98 : decode cX5_lookAt 98 = .ok (.invokevirtual 77, 3) := by decide +kernel
theorem dX5_lookAt_101 : decode cX5_lookAt 101 = .ok (.invokevirtual 80, 3) := by decide +kernel
theorem dX5_lookAt_104 : decode cX5_lookAt 104 = .ok (.iastore, 1) := by decide +kernel
theorem dX5_lookAt_105 : decode cX5_lookAt 105 = .ok (.iinc 3 1, 3) := by decide +kernel
theorem dX5_lookAt_108 : decode cX5_lookAt 108 = .ok (.goto (-30), 3) := by decide +kernel
theorem dX5_lookAt_111 : decode cX5_lookAt 111 = .ok (.return_, 1) := by decide +kernel
theorem dX5_mostWith_0 : decode cX5_mostWith 0 = .ok (.iload_n 1, 1) := by decide +kernel
theorem dX5_mostWith_1 : decode cX5_mostWith 1 = .ok (.iload_n 2, 1) := by decide +kernel
theorem dX5_mostWith_2 : decode cX5_mostWith 2 = .ok (.isub, 1) := by decide +kernel
theorem dX5_mostWith_3 : decode cX5_mostWith 3 = .ok (.istore_n 3, 1) := by decide +kernel
theorem dX5_mostWith_4 : decode cX5_mostWith 4 = .ok (.iload_n 2, 1) := by decide +kernel
theorem dX5_mostWith_5 : decode cX5_mostWith 5 = .ok (.ifCond .lt 31, 3) := by decide +kernel
theorem dX5_mostWith_8 : decode cX5_mostWith 8 = .ok (.iload_n 2, 1) := by decide +kernel
theorem dX5_mostWith_9 : decode cX5_mostWith 9 = .ok (.bipush 30, 2) := by decide +kernel
theorem dX5_mostWith_11 : decode cX5_mostWith 11 = .ok (.if_icmp .gt 25, 3) := by decide +kernel
theorem dX5_mostWith_14 : decode cX5_mostWith 14 = .ok (.iload_n 3, 1) := by decide +kernel
theorem dX5_mostWith_15 : decode cX5_mostWith 15 = .ok (.ifCond .lt 21, 3) := by decide +kernel
theorem dX5_mostWith_18 : decode cX5_mostWith 18 = .ok (.iload_n 3, 1) := by decide +kernel
theorem dX5_mostWith_19 : decode cX5_mostWith 19 = .ok (.sipush 329, 3) := by decide +kernel
theorem dX5_mostWith_22 : decode cX5_mostWith 22 = .ok (.if_icmp .gt 14, 3) := by decide +kernel
theorem dX5_mostWith_25 : decode cX5_mostWith 25 = .ok (.aload_n 0, 1) := by decide +kernel
theorem dX5_mostWith_26 : decode cX5_mostWith 26 = .ok (.getfield 34, 3) := by decide +kernel
theorem dX5_mostWith_29 : decode cX5_mostWith 29 = .ok (.iload_n 3, 1) := by decide +kernel
theorem dX5_mostWith_30 : decode cX5_mostWith 30 = .ok (.iaload, 1) := by decide +kernel
theorem dX5_mostWith_31 : decode cX5_mostWith 31 = .ok (.ldc 53, 2) := by decide +kernel
theorem dX5_mostWith_33 : decode cX5_mostWith 33 = .ok (.if_icmp .ne 6, 3) := by decide +kernel
theorem dX5_mostWith_36 : decode cX5_mostWith 36 = .ok (.ldc 53, 2) := by decide +kernel
theorem dX5_mostWith_38 : decode cX5_mostWith 38 = .ok (.ireturn, 1) := by decide +kernel
theorem dX5_mostWith_39 : decode cX5_mostWith 39 = .ok (.aload_n 0, 1) := by decide +kernel
theorem dX5_mostWith_40 : decode cX5_mostWith 40 = .ok (.getfield 34, 3) := by decide +kernel
theorem dX5_mostWith_43 : decode cX5_mostWith 43 = .ok (.iload_n 3, 1) := by decide +kernel
theorem dX5_mostWith_44 : decode cX5_mostWith 44 = .ok (.iaload, 1) := by decide +kernel
theorem dX5_mostWith_45 : decode cX5_mostWith 45 = .ok (.aload_n 0, 1) := by decide +kernel
theorem dX5_mostWith_46 : decode cX5_mostWith 46 = .ok (.getfield 31, 3) := by decide +kernel
theorem dX5_mostWith_49 : decode cX5_mostWith 49 = .ok (.iload_n 2, 1) := by decide +kernel
theorem dX5_mostWith_50 : decode cX5_mostWith 50 = .ok (.iaload, 1) := by decide +kernel
theorem dX5_mostWith_51 : decode cX5_mostWith 51 = .ok (.iadd, 1) := by decide +kernel
theorem dX5_mostWith_52 : decode cX5_mostWith 52 = .ok (.ireturn, 1) := by decide +kernel
set_option maxRecDepth 20000 in
theorem ggX5_solveHour_X6_isHour : GoodIn wsX5_solveHour wsX6_isHour := goodIn_r _ [12] (by decide +kernel) (by decide +kernel)
set_option maxRecDepth 20000 in
theorem gX5_solveHour_X6_isHour_n83 : GoodIn wsX5_solveHour (wsX6_isHour) := ggX5_solveHour_X6_isHour
set_option maxRecDepth 20000 in
theorem ggX5_solveHour_X2_settingOf : GoodIn wsX5_solveHour wsX2_settingOf := goodIn_r _ [16, 17, 47, 48] (by decide +kernel) (by decide +kernel)
set_option maxRecDepth 20000 in
theorem gX5_solveHour_X2_settingOf_n49 : GoodIn wsX5_solveHour (wsX2_settingOf) := ggX5_solveHour_X2_settingOf
set_option maxRecDepth 20000 in
theorem ggX5_solveHour_X2_priceOf : GoodIn wsX5_solveHour wsX2_priceOf := goodIn_r _ [20, 17, 47, 48] (by decide +kernel) (by decide +kernel)
set_option maxRecDepth 20000 in
theorem gX5_solveHour_X2_priceOf_n92 : GoodIn wsX5_solveHour (wsX2_priceOf) := ggX5_solveHour_X2_priceOf
set_option maxRecDepth 20000 in
theorem ggX5_solveHour_X2_inflowOf : GoodIn wsX5_solveHour wsX2_inflowOf := goodIn_r _ [23, 17, 47, 48] (by decide +kernel) (by decide +kernel)
set_option maxRecDepth 20000 in
theorem gX5_solveHour_X2_inflowOf_n95 : GoodIn wsX5_solveHour (wsX2_inflowOf) := ggX5_solveHour_X2_inflowOf
set_option maxRecDepth 20000 in
theorem ggX5_solveHour_X5_mostByPumping : GoodIn wsX5_solveHour wsX5_mostByPumping := goodIn_r _ [28, 1, 2, 3, 4, 5, 29, 30, 31, 7, 8, 9, 13, 14, 15, 16, 17, 38, 39, 40, 41, 42, 43, 44, 45, 46, 47, 48] (by decide +kernel) (by decide +kernel)
set_option maxRecDepth 20000 in
theorem gX5_solveHour_X5_mostByPumping : GoodIn wsX5_solveHour (wsV RX5 98 RX5 yX5_mostByPumping wsX5_mostByPumping) := goodIn_app (goodIn_of _ (by decide +kernel)) ggX5_solveHour_X5_mostByPumping
set_option maxRecDepth 20000 in
theorem ggX5_solveHour_X5_mostByLettingDown : GoodIn wsX5_solveHour wsX5_mostByLettingDown := goodIn_r _ [35, 1, 2, 3, 4, 5, 29, 36, 37, 7, 8, 9, 13, 14, 15, 16, 17, 38, 39, 40, 41, 42, 43, 44, 45, 46, 47, 48] (by decide +kernel) (by decide +kernel)
set_option maxRecDepth 20000 in
theorem gX5_solveHour_X5_mostByLettingDown : GoodIn wsX5_solveHour (wsV RX5 101 RX5 yX5_mostByLettingDown wsX5_mostByLettingDown) := goodIn_app (goodIn_of _ (by decide +kernel)) ggX5_solveHour_X5_mostByLettingDown
theorem dX5_solveHour_0 : decode cX5_solveHour 0 = .ok (.iload_n 1, 1) := by decide +kernel
theorem dX5_solveHour_1 : decode cX5_solveHour 1 = .ok (.invokestatic 83, 3) := by decide +kernel
theorem dX5_solveHour_4 : decode cX5_solveHour 4 = .ok (.ifCond .ne 4, 3) := by decide +kernel
theorem dX5_solveHour_7 : decode cX5_solveHour 7 = .ok (.return_, 1) := by decide +kernel
theorem dX5_solveHour_8 : decode cX5_solveHour 8 = .ok (.iload_n 1, 1) := by decide +kernel
theorem dX5_solveHour_9 : decode cX5_solveHour 9 = .ok (.ifCond .ne 9, 3) := by decide +kernel
theorem dX5_solveHour_12 : decode cX5_solveHour 12 = .ok (.sipush 200, 3) := by decide +kernel
theorem dX5_solveHour_15 : decode cX5_solveHour 15 = .ok (.goto 18, 3) := by decide +kernel
theorem dX5_solveHour_18 : decode cX5_solveHour 18 = .ok (.aload_n 0, 1) := by decide +kernel
theorem dX5_solveHour_19 : decode cX5_solveHour 19 = .ok (.getfield 40, 3) := by decide +kernel
theorem dX5_solveHour_22 : decode cX5_solveHour 22 = .ok (.bipush 6, 2) := by decide +kernel
theorem dX5_solveHour_24 : decode cX5_solveHour 24 = .ok (.invokevirtual 49, 3) := by decide +kernel
theorem dX5_solveHour_27 : decode cX5_solveHour 27 = .ok (.sipush 200, 3) := by decide +kernel
theorem dX5_solveHour_30 : decode cX5_solveHour 30 = .ok (.invokestatic 87, 3) := by decide +kernel
theorem dX5_solveHour_33 : decode cX5_solveHour 33 = .ok (.istore_n 2, 1) := by decide +kernel
theorem dX5_solveHour_34 : decode cX5_solveHour 34 = .ok (.aload_n 0, 1) := by decide +kernel
theorem dX5_solveHour_35 : decode cX5_solveHour 35 = .ok (.getfield 40, 3) := by decide +kernel
theorem dX5_solveHour_38 : decode cX5_solveHour 38 = .ok (.iload_n 1, 1) := by decide +kernel
theorem dX5_solveHour_39 : decode cX5_solveHour 39 = .ok (.invokevirtual 92, 3) := by decide +kernel
theorem dX5_solveHour_42 : decode cX5_solveHour 42 = .ok (.istore_n 3, 1) := by decide +kernel
theorem dX5_solveHour_43 : decode cX5_solveHour 43 = .ok (.iconst 0, 1) := by decide +kernel
theorem dX5_solveHour_44 : decode cX5_solveHour 44 = .ok (.istore 4, 2) := by decide +kernel
theorem dX5_solveHour_46 : decode cX5_solveHour 46 = .ok (.iload 4, 2) := by decide +kernel
theorem dX5_solveHour_48 : decode cX5_solveHour 48 = .ok (.iload_n 2, 1) := by decide +kernel
theorem dX5_solveHour_49 : decode cX5_solveHour 49 = .ok (.if_icmp .gt 47, 3) := by decide +kernel
theorem dX5_solveHour_52 : decode cX5_solveHour 52 = .ok (.iload 4, 2) := by decide +kernel
theorem dX5_solveHour_54 : decode cX5_solveHour 54 = .ok (.aload_n 0, 1) := by decide +kernel
