theorem dX6_obeyOrder_1 : decode cX6_obeyOrder 1 = .ok (.getfield 44, 3) := by decide +kernel
theorem dX6_obeyOrder_4 : decode cX6_obeyOrder 4 = .ok (.getfield 232, 3) := by decide +kernel
theorem dX6_obeyOrder_7 : decode cX6_obeyOrder 7 = .ok (.bipush 97, 2) := by decide +kernel
theorem dX6_obeyOrder_9 : decode cX6_obeyOrder 9 = .ok (.if_icmp .ne 8, 3) := by decide +kernel
theorem dX6_obeyOrder_12 : decode cX6_obeyOrder 12 = .ok (.aload_n 0, 1) := by decide +kernel
theorem dX6_obeyOrder_13 : decode cX6_obeyOrder 13 = .ok (.invokevirtual 91, 3) := by decide +kernel
theorem dX6_obeyOrder_16 : decode cX6_obeyOrder 16 = .ok (.ireturn, 1) := by decide +kernel
theorem dX6_obeyOrder_17 : decode cX6_obeyOrder 17 = .ok (.aload_n 0, 1) := by decide +kernel
theorem dX6_obeyOrder_18 : decode cX6_obeyOrder 18 = .ok (.getfield 44, 3) := by decide +kernel
theorem dX6_obeyOrder_21 : decode cX6_obeyOrder 21 = .ok (.getfield 232, 3) := by decide +kernel
theorem dX6_obeyOrder_24 : decode cX6_obeyOrder 24 = .ok (.bipush 99, 2) := by decide +kernel
theorem dX6_obeyOrder_26 : decode cX6_obeyOrder 26 = .ok (.if_icmp .ne 39, 3) := by decide +kernel
theorem dX6_obeyOrder_29 : decode cX6_obeyOrder 29 = .ok (.aload_n 0, 1) := by decide +kernel
theorem dX6_obeyOrder_30 : decode cX6_obeyOrder 30 = .ok (.getfield 10, 3) := by decide +kernel
theorem dX6_obeyOrder_33 : decode cX6_obeyOrder 33 = .ok (.aload_n 0, 1) := by decide +kernel
theorem dX6_obeyOrder_34 : decode cX6_obeyOrder 34 = .ok (.getfield 44, 3) := by decide +kernel
theorem dX6_obeyOrder_37 : decode cX6_obeyOrder 37 = .ok (.getfield 236, 3) := by decide +kernel
theorem dX6_obeyOrder_40 : decode cX6_obeyOrder 40 = .ok (.aload_n 0, 1) := by decide +kernel
theorem dX6_obeyOrder_41 : decode cX6_obeyOrder 41 = .ok (.getfield 44, 3) := by decide +kernel
theorem dX6_obeyOrder_44 : decode cX6_obeyOrder 44 = .ok (.getfield 239, 3) := by decide +kernel
theorem dX6_obeyOrder_47 : decode cX6_obeyOrder 47 = .ok (.aload_n 0, 1) := by decide +kernel
theorem dX6_obeyOrder_48 : decode cX6_obeyOrder 48 = .ok (.getfield 44, 3) := by decide +kernel
theorem dX6_obeyOrder_51 : decode cX6_obeyOrder 51 = .ok (.getfield 242, 3) := by decide +kernel
theorem dX6_obeyOrder_54 : decode cX6_obeyOrder 54 = .ok (.aload_n 0, 1) := by decide +kernel
theorem dX6_obeyOrder_55 : decode cX6_obeyOrder 55 = .ok (.getfield 44, 3) := by decide +kernel
theorem dX6_obeyOrder_58 : decode cX6_obeyOrder 58 = .ok (.getfield 245, 3) := by decide +kernel
theorem dX6_obeyOrder_61 : decode cX6_obeyOrder 61 = .ok (.invokevirtual 84, 3) := by decide +kernel
theorem dX6_obeyOrder_64 : decode cX6_obeyOrder 64 = .ok (.ireturn, 1) := by decide +kernel
theorem dX6_obeyOrder_65 : decode cX6_obeyOrder 65 = .ok (.aload_n 0, 1) := by decide +kernel
theorem dX6_obeyOrder_66 : decode cX6_obeyOrder 66 = .ok (.getfield 44, 3) := by decide +kernel
theorem dX6_obeyOrder_69 : decode cX6_obeyOrder 69 = .ok (.getfield 248, 3) := by decide +kernel
theorem dX6_obeyOrder_72 : decode cX6_obeyOrder 72 = .ok (.aload_n 0, 1) := by decide +kernel
theorem dX6_obeyOrder_73 : decode cX6_obeyOrder 73 = .ok (.getfield 44, 3) := by decide +kernel
theorem dX6_obeyOrder_76 : decode cX6_obeyOrder 76 = .ok (.getfield 236, 3) := by decide +kernel
theorem dX6_obeyOrder_79 : decode cX6_obeyOrder 79 = .ok (.if_icmp .ge 6, 3) := by decide +kernel
theorem dX6_obeyOrder_82 : decode cX6_obeyOrder 82 = .ok (.bipush (-2), 2) := by decide +kernel
theorem dX6_obeyOrder_84 : decode cX6_obeyOrder 84 = .ok (.ireturn, 1) := by decide +kernel
theorem dX6_obeyOrder_85 : decode cX6_obeyOrder 85 = .ok (.iconst (-1), 1) := by decide +kernel
theorem dX6_obeyOrder_86 : decode cX6_obeyOrder 86 = .ok (.istore_n 1, 1) := by decide +kernel
theorem dX6_obeyOrder_87 : decode cX6_obeyOrder 87 = .ok (.aload_n 0, 1) := by decide +kernel
theorem dX6_obeyOrder_88 : decode cX6_obeyOrder 88 = .ok (.getfield 44, 3) := by decide +kernel
theorem dX6_obeyOrder_91 : decode cX6_obeyOrder 91 = .ok (.getfield 236, 3) := by decide +kernel
theorem dX6_obeyOrder_94 : decode cX6_obeyOrder 94 = .ok (.istore_n 2, 1) := by decide +kernel
theorem dX6_obeyOrder_95 : decode cX6_obeyOrder 95 = .ok (.iload_n 2, 1) := by decide +kernel
theorem dX6_obeyOrder_96 : decode cX6_obeyOrder 96 = .ok (.aload_n 0, 1) := by decide +kernel
theorem dX6_obeyOrder_97 : decode cX6_obeyOrder 97 = .ok (.getfield 44, 3) := by decide +kernel
theorem dX6_obeyOrder_100 : decode cX6_obeyOrder 100 = .ok (.getfield 248, 3) := by decide +kernel
theorem dX6_obeyOrder_103 : decode cX6_obeyOrder 103 = .ok (.if_icmp .gt 21, 3) := by decide +kernel
theorem dX6_obeyOrder_106 : decode cX6_obeyOrder 106 = .ok (.aload_n 0, 1) := by decide +kernel
theorem dX6_obeyOrder_107 : decode cX6_obeyOrder 107 = .ok (.iload_n 2, 1) := by decide +kernel
theorem dX6_obeyOrder_108 : decode cX6_obeyOrder 108 = .ok (.invokevirtual 251, 3) := by decide +kernel
theorem dX6_obeyOrder_111 : decode cX6_obeyOrder 111 = .ok (.istore_n 1, 1) := by decide +kernel
theorem dX6_obeyOrder_112 : decode cX6_obeyOrder 112 = .ok (.iload_n 1, 1) := by decide +kernel
theorem dX6_obeyOrder_113 : decode cX6_obeyOrder 113 = .ok (.ifCond .ge 5, 3) := by decide +kernel
theorem dX6_obeyOrder_116 : decode cX6_obeyOrder 116 = .ok (.iload_n 1, 1) := by decide +kernel
theorem dX6_obeyOrder_117 : decode cX6_obeyOrder 117 = .ok (.ireturn, 1) := by decide +kernel
theorem dX6_obeyOrder_118 : decode cX6_obeyOrder 118 = .ok (.iinc 2 1, 3) := by decide +kernel
theorem dX6_obeyOrder_121 : decode cX6_obeyOrder 121 = .ok (.goto (-26), 3) := by decide +kernel
theorem dX6_obeyOrder_124 : decode cX6_obeyOrder 124 = .ok (.iload_n 1, 1) := by decide +kernel
theorem dX6_obeyOrder_125 : decode cX6_obeyOrder 125 = .ok (.ireturn, 1) := by decide +kernel
set_option maxRecDepth 20000 in
theorem ggX6_obeyInHour_X2_changePrice : GoodIn wsX6_obeyInHour wsX2_changePrice := goodIn_r _ [6, 7, 8, 9, 10, 11, 12, 13, 4, 14, 15, 40, 41] (by decide +kernel) (by decide +kernel)
set_option maxRecDepth 20000 in
theorem gX6_obeyInHour_X2_changePrice_n75 : GoodIn wsX6_obeyInHour (wsX2_changePrice) := ggX6_obeyInHour_X2_changePrice
set_option maxRecDepth 20000 in
theorem ggX6_obeyInHour_X2_changeInflow : GoodIn wsX6_obeyInHour wsX2_changeInflow := goodIn_r _ [18, 7, 8, 9, 10, 11, 12, 13, 4, 14, 15, 40, 41] (by decide +kernel) (by decide +kernel)
set_option maxRecDepth 20000 in
theorem gX6_obeyInHour_X2_changeInflow_n78 : GoodIn wsX6_obeyInHour (wsX2_changeInflow) := ggX6_obeyInHour_X2_changeInflow
set_option maxRecDepth 20000 in
theorem ggX6_obeyInHour_X2_changePlan : GoodIn wsX6_obeyInHour wsX2_changePlan := goodIn_r _ [21, 15, 8, 9, 10, 11, 12, 13, 4, 14, 40, 41] (by decide +kernel) (by decide +kernel)
set_option maxRecDepth 20000 in
theorem gX6_obeyInHour_X2_changePlan_n81 : GoodIn wsX6_obeyInHour (wsX2_changePlan) := ggX6_obeyInHour_X2_changePlan
theorem dX6_obeyInHour_0 : decode cX6_obeyInHour 0 = .ok (.aload_n 0, 1) := by decide +kernel
theorem dX6_obeyInHour_1 : decode cX6_obeyInHour 1 = .ok (.getfield 44, 3) := by decide +kernel
theorem dX6_obeyInHour_4 : decode cX6_obeyInHour 4 = .ok (.getfield 232, 3) := by decide +kernel
theorem dX6_obeyInHour_7 : decode cX6_obeyInHour 7 = .ok (.bipush 112, 2) := by decide +kernel
theorem dX6_obeyInHour_9 : decode cX6_obeyInHour 9 = .ok (.if_icmp .ne 19, 3) := by decide +kernel
theorem dX6_obeyInHour_12 : decode cX6_obeyInHour 12 = .ok (.aload_n 0, 1) := by decide +kernel
theorem dX6_obeyInHour_13 : decode cX6_obeyInHour 13 = .ok (.getfield 10, 3) := by decide +kernel
theorem dX6_obeyInHour_16 : decode cX6_obeyInHour 16 = .ok (.iload_n 1, 1) := by decide +kernel
theorem dX6_obeyInHour_17 : decode cX6_obeyInHour 17 = .ok (.aload_n 0, 1) := by decide +kernel
theorem dX6_obeyInHour_18 : decode cX6_obeyInHour 18 = .ok (.getfield 44, 3) := by decide +kernel
theorem dX6_obeyInHour_21 : decode cX6_obeyInHour 21 = .ok (.getfield 254, 3) := by decide +kernel
theorem dX6_obeyInHour_24 : decode cX6_obeyInHour 24 = .ok (.invokevirtual 75, 3) := by decide +kernel
theorem dX6_obeyInHour_27 : decode cX6_obeyInHour 27 = .ok (.ireturn, 1) := by decide +kernel
theorem dX6_obeyInHour_28 : decode cX6_obeyInHour 28 = .ok (.aload_n 0, 1) := by decide +kernel
theorem dX6_obeyInHour_29 : decode cX6_obeyInHour 29 = .ok (.getfield 44, 3) := by decide +kernel
theorem dX6_obeyInHour_32 : decode cX6_obeyInHour 32 = .ok (.getfield 232, 3) := by decide +kernel
theorem dX6_obeyInHour_35 : decode cX6_obeyInHour 35 = .ok (.bipush 105, 2) := by decide +kernel
theorem dX6_obeyInHour_37 : decode cX6_obeyInHour 37 = .ok (.if_icmp .ne 19, 3) := by decide +kernel
theorem dX6_obeyInHour_40 : decode cX6_obeyInHour 40 = .ok (.aload_n 0, 1) := by decide +kernel
theorem dX6_obeyInHour_41 : decode cX6_obeyInHour 41 = .ok (.getfield 10, 3) := by decide +kernel
theorem dX6_obeyInHour_44 : decode cX6_obeyInHour 44 = .ok (.iload_n 1, 1) := by decide +kernel
theorem dX6_obeyInHour_45 : decode cX6_obeyInHour 45 = .ok (.aload_n 0, 1) := by decide +kernel
theorem dX6_obeyInHour_46 : decode cX6_obeyInHour 46 = .ok (.getfield 44, 3) := by decide +kernel
theorem dX6_obeyInHour_49 : decode cX6_obeyInHour 49 = .ok (.getfield 254, 3) := by decide +kernel
theorem dX6_obeyInHour_52 : decode cX6_obeyInHour 52 = .ok (.invokevirtual 78, 3) := by decide +kernel
theorem dX6_obeyInHour_55 : decode cX6_obeyInHour 55 = .ok (.ireturn, 1) := by decide +kernel
theorem dX6_obeyInHour_56 : decode cX6_obeyInHour 56 = .ok (.aload_n 0, 1) := by decide +kernel
theorem dX6_obeyInHour_57 : decode cX6_obeyInHour 57 = .ok (.getfield 10, 3) := by decide +kernel
theorem dX6_obeyInHour_60 : decode cX6_obeyInHour 60 = .ok (.iload_n 1, 1) := by decide +kernel
theorem dX6_obeyInHour_61 : decode cX6_obeyInHour 61 = .ok (.aload_n 0, 1) := by decide +kernel
theorem dX6_obeyInHour_62 : decode cX6_obeyInHour 62 = .ok (.getfield 44, 3) := by decide +kernel
theorem dX6_obeyInHour_65 : decode cX6_obeyInHour 65 = .ok (.getfield 254, 3) := by decide +kernel
theorem dX6_obeyInHour_68 : decode cX6_obeyInHour 68 = .ok (.invokevirtual 81, 3) := by decide +kernel
theorem dX6_obeyInHour_71 : decode cX6_obeyInHour 71 = .ok (.ireturn, 1) := by decide +kernel
set_option maxRecDepth 20000 in
theorem ggX6_moneyOfDay_X6_sumOf : GoodIn wsX6_moneyOfDay wsX6_sumOf := goodIn_r _ [6] (by decide +kernel) (by decide +kernel)
set_option maxRecDepth 20000 in
theorem gX6_moneyOfDay_X6_sumOf : GoodIn wsX6_moneyOfDay (va_wsS RX6 149 yX6_sumOf wsX6_sumOf) := goodIn_app (goodIn_of _ (by decide +kernel)) ggX6_moneyOfDay_X6_sumOf
theorem dX6_moneyOfDay_0 : decode cX6_moneyOfDay 0 = .ok (.aload_n 0, 1) := by decide +kernel
theorem dX6_moneyOfDay_1 : decode cX6_moneyOfDay 1 = .ok (.getfield 21, 3) := by decide +kernel
theorem dX6_moneyOfDay_4 : decode cX6_moneyOfDay 4 = .ok (.getfield 127, 3) := by decide +kernel
theorem dX6_moneyOfDay_7 : decode cX6_moneyOfDay 7 = .ok (.invokestatic 149, 3) := by decide +kernel
theorem dX6_moneyOfDay_10 : decode cX6_moneyOfDay 10 = .ok (.ldc 186, 2) := by decide +kernel
theorem dX6_moneyOfDay_12 : decode cX6_moneyOfDay 12 = .ok (.iadd, 1) := by decide +kernel
theorem dX6_moneyOfDay_13 : decode cX6_moneyOfDay 13 = .ok (.ireturn, 1) := by decide +kernel
theorem dX6_isHour_0 : decode cX6_isHour 0 = .ok (.iload_n 0, 1) := by decide +kernel
theorem dX6_isHour_1 : decode cX6_isHour 1 = .ok (.ifCond .lt 13, 3) := by decide +kernel
theorem dX6_isHour_4 : decode cX6_isHour 4 = .ok (.iload_n 0, 1) := by decide +kernel
theorem dX6_isHour_5 : decode cX6_isHour 5 = .ok (.bipush 24, 2) := by decide +kernel
theorem dX6_isHour_7 : decode cX6_isHour 7 = .ok (.if_icmp .ge 7, 3) := by decide +kernel
theorem dX6_isHour_10 : decode cX6_isHour 10 = .ok (.iconst 1, 1) := by decide +kernel
theorem dX6_isHour_11 : decode cX6_isHour 11 = .ok (.goto 4, 3) := by decide +kernel
theorem dX6_isHour_14 : decode cX6_isHour 14 = .ok (.iconst 0, 1) := by decide +kernel
theorem dX6_isHour_15 : decode cX6_isHour 15 = .ok (.ireturn, 1) := by decide +kernel
theorem dX6_sumOf_0 : decode cX6_sumOf 0 = .ok (.iconst 0, 1) := by decide +kernel
theorem dX6_sumOf_1 : decode cX6_sumOf 1 = .ok (.istore_n 1, 1) := by decide +kernel
theorem dX6_sumOf_2 : decode cX6_sumOf 2 = .ok (.iconst 0, 1) := by decide +kernel
theorem dX6_sumOf_3 : decode cX6_sumOf 3 = .ok (.istore_n 2, 1) := by decide +kernel
theorem dX6_sumOf_4 : decode cX6_sumOf 4 = .ok (.iload_n 2, 1) := by decide +kernel
theorem dX6_sumOf_5 : decode cX6_sumOf 5 = .ok (.aload_n 0, 1) := by decide +kernel
theorem dX6_sumOf_6 : decode cX6_sumOf 6 = .ok (.arraylength, 1) := by decide +kernel
theorem dX6_sumOf_7 : decode cX6_sumOf 7 = .ok (.if_icmp .ge 15, 3) := by decide +kernel
theorem dX6_sumOf_10 : decode cX6_sumOf 10 = .ok (.iload_n 1, 1) := by decide +kernel
theorem dX6_sumOf_11 : decode cX6_sumOf 11 = .ok (.aload_n 0, 1) := by decide +kernel
theorem dX6_sumOf_12 : decode cX6_sumOf 12 = .ok (.iload_n 2, 1) := by decide +kernel
theorem dX6_sumOf_13 : decode cX6_sumOf 13 = .ok (.iaload, 1) := by decide +kernel
theorem dX6_sumOf_14 : decode cX6_sumOf 14 = .ok (.iadd, 1) := by decide +kernel
theorem dX6_sumOf_15 : decode cX6_sumOf 15 = .ok (.istore_n 1, 1) := by decide +kernel
theorem dX6_sumOf_16 : decode cX6_sumOf 16 = .ok (.iinc 2 1, 3) := by decide +kernel
theorem dX6_sumOf_19 : decode cX6_sumOf 19 = .ok (.goto (-15), 3) := by decide +kernel
theorem dX6_sumOf_22 : decode cX6_sumOf 22 = .ok (.iload_n 1, 1) := by decide +kernel
theorem dX6_sumOf_23 : decode cX6_sumOf 23 = .ok (.ireturn, 1) := by decide +kernel
theorem dX6_copyRow_0 : decode cX6_copyRow 0 = .ok (.aload_n 0, 1) := by decide +kernel
theorem dX6_copyRow_1 : decode cX6_copyRow 1 = .ok (.iconst 0, 1) := by decide +kernel
theorem dX6_copyRow_2 : decode cX6_copyRow 2 = .ok (.aload_n 1, 1) := by decide +kernel
theorem dX6_copyRow_3 : decode cX6_copyRow 3 = .ok (.iconst 0, 1) := by decide +kernel
theorem dX6_copyRow_4 : decode cX6_copyRow 4 = .ok (.aload_n 0, 1) := by decide +kernel
theorem dX6_copyRow_5 : decode cX6_copyRow 5 = .ok (.arraylength, 1) := by decide +kernel
theorem dX6_copyRow_6 : decode cX6_copyRow 6 = .ok (.aload_n 1, 1) := by decide +kernel
theorem dX6_copyRow_7 : decode cX6_copyRow 7 = .ok (.arraylength, 1) := by decide +kernel
theorem dX6_copyRow_8 : decode cX6_copyRow 8 = .ok (.invokestatic 257, 3) := by decide +kernel
theorem dX6_copyRow_11 : decode cX6_copyRow 11 = .ok (.invokestatic 262, 3) := by decide +kernel
theorem dX6_copyRow_14 : decode cX6_copyRow 14 = .ok (.return_, 1) := by decide +kernel
theorem dX7_init_0 : decode cX7_init 0 = .ok (.aload_n 0, 1) := by decide +kernel
theorem dX7_init_1 : decode cX7_init 1 = .ok (.invokespecial 1, 3) := by decide +kernel
theorem dX7_init_4 : decode cX7_init 4 = .ok (.aload_n 0, 1) := by decide +kernel
theorem dX7_init_5 : decode cX7_init 5 = .ok (.bipush 115, 2) := by decide +kernel
theorem dX7_init_7 : decode cX7_init 7 = .ok (.newarray .int, 2) := by decide +kernel
theorem dX7_init_9 : decode cX7_init 9 = .ok (.putfield 7, 3) := by decide +kernel
theorem dX7_init_12 : decode cX7_init 12 = .ok (.aload_n 0, 1) := by decide +kernel
theorem dX7_init_13 : decode cX7_init 13 = .ok (.sipush 690, 3) := by decide +kernel
theorem dX7_init_16 : decode cX7_init 16 = .ok (.newarray .int, 2) := by decide +kernel
theorem dX7_init_18 : decode cX7_init 18 = .ok (.putfield 13, 3) := by decide +kernel
theorem dX7_init_21 : decode cX7_init 21 = .ok (.aload_n 0, 1) := by decide +kernel
theorem dX7_init_22 : decode cX7_init 22 = .ok (.sipush 230, 3) := by decide +kernel
theorem dX7_init_25 : decode cX7_init 25 = .ok (.newarray .int, 2) := by decide +kernel
theorem dX7_init_27 : decode cX7_init 27 = .ok (.putfield 16, 3) := by decide +kernel
theorem dX7_init_30 : decode cX7_init 30 = .ok (.aload_n 0, 1) := by decide +kernel
theorem dX7_init_31 : decode cX7_init 31 = .ok (.iconst 2, 1) := by decide +kernel
theorem dX7_init_32 : decode cX7_init 32 = .ok (.newarray .boolean, 2) := by decide +kernel
theorem dX7_init_34 : decode cX7_init 34 = .ok (.putfield 19, 3) := by decide +kernel
theorem dX7_init_37 : decode cX7_init 37 = .ok (.aload_n 0, 1) := by decide +kernel
theorem dX7_init_38 : decode cX7_init 38 = .ok (.bipush 80, 2) := by decide +kernel
theorem dX7_init_40 : decode cX7_init 40 = .ok (.newarray .int, 2) := by decide +kernel
theorem dX7_init_42 : decode cX7_init 42 = .ok (.putfield 23, 3) := by decide +kernel
theorem dX7_init_45 : decode cX7_init 45 = .ok (.aload_n 0, 1) := by decide +kernel
theorem dX7_init_46 : decode cX7_init 46 = .ok (.sipush 205, 3) := by decide +kernel
theorem dX7_init_49 : decode cX7_init 49 = .ok (.newarray .int, 2) := by decide +kernel
theorem dX7_init_51 : decode cX7_init 51 = .ok (.putfield 26, 3) := by decide +kernel
theorem dX7_init_54 : decode cX7_init 54 = .ok (.aload_n 0, 1) := by decide +kernel
theorem dX7_init_55 : decode cX7_init 55 = .ok (.sipush 5025, 3) := by decide +kernel
theorem dX7_init_58 : decode cX7_init 58 = .ok (.newarray .int, 2) := by decide +kernel
theorem dX7_init_60 : decode cX7_init 60 = .ok (.putfield 29, 3) := by decide +kernel
theorem dX7_init_63 : decode cX7_init 63 = .ok (.aload_n 0, 1) := by decide +kernel
theorem dX7_init_64 : decode cX7_init 64 = .ok (.sipush 402, 3) := by decide +kernel
theorem dX7_init_67 : decode cX7_init 67 = .ok (.newarray .boolean, 2) := by decide +kernel
theorem dX7_init_69 : decode cX7_init 69 = .ok (.putfield 32, 3) := by decide +kernel
theorem dX7_init_72 : decode cX7_init 72 = .ok (.aload_n 0, 1) := by decide +kernel
theorem dX7_init_73 : decode cX7_init 73 = .ok (.getfield 7, 3) := by decide +kernel
theorem dX7_init_76 : decode cX7_init 76 = .ok (.iconst 0, 1) := by decide +kernel
theorem dX7_init_77 : decode cX7_init 77 = .ok (.bipush 20, 2) := by decide +kernel
theorem dX7_init_79 : decode cX7_init 79 = .ok (.iastore, 1) := by decide +kernel
theorem dX7_init_80 : decode cX7_init 80 = .ok (.aload_n 0, 1) := by decide +kernel
theorem dX7_init_81 : decode cX7_init 81 = .ok (.getfield 7, 3) := by decide +kernel
theorem dX7_init_84 : decode cX7_init 84 = .ok (.iconst 1, 1) := by decide +kernel
theorem dX7_init_85 : decode cX7_init 85 = .ok (.bipush 20, 2) := by decide +kernel
theorem dX7_init_87 : decode cX7_init 87 = .ok (.iastore, 1) := by decide +kernel
theorem dX7_init_88 : decode cX7_init 88 = .ok (.aload_n 0, 1) := by decide +kernel
theorem dX7_init_89 : decode cX7_init 89 = .ok (.getfield 7, 3) := by decide +kernel
theorem dX7_init_92 : decode cX7_init 92 = .ok (.iconst 2, 1) := by decide +kernel
theorem dX7_init_93 : decode cX7_init 93 = .ok (.bipush 25, 2) := by decide +kernel
theorem dX7_init_95 : decode cX7_init 95 = .ok (.iastore, 1) := by decide +kernel
theorem dX7_init_96 : decode cX7_init 96 = .ok (.aload_n 0, 1) := by decide +kernel
theorem dX7_init_97 : decode cX7_init 97 = .ok (.getfield 7, 3) := by decide +kernel
theorem dX7_init_100 : decode cX7_init 100 = .ok (.iconst 3, 1) := by decide +kernel
theorem dX7_init_101 : decode cX7_init 101 = .ok (.bipush 90, 2) := by decide +kernel
theorem dX7_init_103 : decode cX7_init 103 = .ok (.iastore, 1) := by decide +kernel
theorem dX7_init_104 : decode cX7_init 104 = .ok (.aload_n 0, 1) := by decide +kernel
theorem dX7_init_105 : decode cX7_init 105 = .ok (.getfield 7, 3) := by decide +kernel
theorem dX7_init_108 : decode cX7_init 108 = .ok (.iconst 4, 1) := by decide +kernel
theorem dX7_init_109 : decode cX7_init 109 = .ok (.iconst 2, 1) := by decide +kernel
theorem dX7_init_110 : decode cX7_init 110 = .ok (.iastore, 1) := by decide +kernel
theorem dX7_init_111 : decode cX7_init 111 = .ok (.aload_n 0, 1) := by decide +kernel
theorem dX7_init_112 : decode cX7_init 112 = .ok (.getfield 7, 3) := by decide +kernel
theorem dX7_init_115 : decode cX7_init 115 = .ok (.iconst 5, 1) := by decide +kernel
theorem dX7_init_116 : decode cX7_init 116 = .ok (.bipush 20, 2) := by decide +kernel
theorem dX7_init_118 : decode cX7_init 118 = .ok (.iastore, 1) := by decide +kernel
theorem dX7_init_119 : decode cX7_init 119 = .ok (.aload_n 0, 1) := by decide +kernel
theorem dX7_init_120 : decode cX7_init 120 = .ok (.getfield 7, 3) := by decide +kernel
theorem dX7_init_123 : decode cX7_init 123 = .ok (.bipush 6, 2) := by decide +kernel
theorem dX7_init_125 : decode cX7_init 125 = .ok (.sipush 150, 3) := by decide +kernel
theorem dX7_init_128 : decode cX7_init 128 = .ok (.iastore, 1) := by decide +kernel
theorem dX7_init_129 : decode cX7_init 129 = .ok (.aload_n 0, 1) := by decide +kernel
theorem dX7_init_130 : decode cX7_init 130 = .ok (.getfield 7, 3) := by decide +kernel
theorem dX7_init_133 : decode cX7_init 133 = .ok (.bipush 7, 2) := by decide +kernel
theorem dX7_init_135 : decode cX7_init 135 = .ok (.bipush 80, 2) := by decide +kernel
theorem dX7_init_137 : decode cX7_init 137 = .ok (.iastore, 1) := by decide +kernel
theorem dX7_init_138 : decode cX7_init 138 = .ok (.aload_n 0, 1) := by decide +kernel
theorem dX7_init_139 : decode cX7_init 139 = .ok (.getfield 7, 3) := by decide +kernel
theorem dX7_init_142 : decode cX7_init 142 = .ok (.bipush 8, 2) := by decide +kernel
theorem dX7_init_144 : decode cX7_init 144 = .ok (.bipush 80, 2) := by decide +kernel
theorem dX7_init_146 : decode cX7_init 146 = .ok (.iastore, 1) := by decide +kernel
theorem dX7_init_147 : decode cX7_init 147 = .ok (.aload_n 0, 1) := by decide +kernel
theorem dX7_init_148 : decode cX7_init 148 = .ok (.getfield 7, 3) := by decide +kernel
theorem dX7_init_151 : decode cX7_init 151 = .ok (.bipush 9, 2) := by decide +kernel
theorem dX7_init_153 : decode cX7_init 153 = .ok (.bipush 50, 2) := by decide +kernel
theorem dX7_init_155 : decode cX7_init 155 = .ok (.iastore, 1) := by decide +kernel
theorem dX7_init_156 : decode cX7_init 156 = .ok (.iconst 0, 1) := by decide +kernel
theorem dX7_init_157 : decode cX7_init 157 = .ok (.istore_n 1, 1) := by decide +kernel
theorem dX7_init_158 : decode cX7_init 158 = .ok (.iload_n 1, 1) := by decide +kernel
theorem dX7_init_159 : decode cX7_init 159 = .ok (.bipush 24, 2) := by decide +kernel
theorem dX7_init_161 : decode cX7_init 161 = .ok (.if_icmp .ge 30, 3) := by decide +kernel
theorem dX7_init_164 : decode cX7_init 164 = .ok (.aload_n 0, 1) := by decide +kernel
theorem dX7_init_165 : decode cX7_init 165 = .ok (.getfield 7, 3) := by decide +kernel
theorem dX7_init_168 : decode cX7_init 168 = .ok (.bipush 10, 2) := by decide +kernel
theorem dX7_init_170 : decode cX7_init 170 = .ok (.iload_n 1, 1) := by decide +kernel
theorem dX7_init_171 : decode cX7_init 171 = .ok (.iadd, 1) := by decide +kernel
theorem dX7_init_172 : decode cX7_init 172 = .ok (.bipush 100, 2) := by decide +kernel
theorem dX7_init_174 : decode cX7_init 174 = .ok (.iastore, 1) := by decide +kernel
theorem dX7_init_175 : decode cX7_init 175 = .ok (.aload_n 0, 1) := by decide +kernel
theorem dX7_init_176 : decode cX7_init 176 = .ok (.getfield 7, 3) := by decide +kernel
theorem dX7_init_179 : decode cX7_init 179 = .ok (.bipush 34, 2) := by decide +kernel
theorem dX7_init_181 : decode cX7_init 181 = .ok (.iload_n 1, 1) := by decide +kernel
theorem dX7_init_182 : decode cX7_init 182 = .ok (.iadd, 1) := by decide +kernel
theorem dX7_init_183 : decode cX7_init 183 = .ok (.iconst 3, 1) := by decide +kernel
theorem dX7_init_184 : decode cX7_init 184 = .ok (.iastore, 1) := by decide +kernel
theorem dX7_init_185 : decode cX7_init 185 = .ok (.iinc 1 1, 3) := by decide +kernel
theorem dX7_init_188 : decode cX7_init 188 = .ok (.goto (-30), 3) := by decide +kernel
theorem dX7_init_191 : decode cX7_init 191 = .ok (.return_, 1) := by decide +kernel
theorem dX7_in_0 : decode cX7_in 0 = .ok (.iload_n 0, 1) := by decide +kernel
theorem dX7_in_1 : decode cX7_in 1 = .ok (.iload_n 1, 1) := by decide +kernel
theorem dX7_in_2 : decode cX7_in 2 = .ok (.if_icmp .lt 12, 3) := by decide +kernel
theorem dX7_in_5 : decode cX7_in 5 = .ok (.iload_n 0, 1) := by decide +kernel
theorem dX7_in_6 : decode cX7_in 6 = .ok (.iload_n 2, 1) := by decide +kernel
theorem dX7_in_7 : decode cX7_in 7 = .ok (.if_icmp .gt 7, 3) := by decide +kernel
theorem dX7_in_10 : decode cX7_in 10 = .ok (.iconst 1, 1) := by decide +kernel
theorem dX7_in_11 : decode cX7_in 11 = .ok (.goto 4, 3) := by decide +kernel
theorem dX7_in_14 : decode cX7_in 14 = .ok (.iconst 0, 1) := by decide +kernel
theorem dX7_in_15 : decode cX7_in 15 = .ok (.ireturn, 1) := by decide +kernel
set_option maxRecDepth 20000 in
theorem ggX7_isHour_X7_in : GoodIn wsX7_isHour wsX7_in := goodIn_r _ [4] (by decide +kernel) (by decide +kernel)
set_option maxRecDepth 20000 in
theorem gX7_isHour_X7_in : GoodIn wsX7_isHour (va_wsS RX7 35 yX7_in wsX7_in) := goodIn_app (goodIn_of _ (by decide +kernel)) ggX7_isHour_X7_in
theorem dX7_isHour_0 : decode cX7_isHour 0 = .ok (.iload_n 0, 1) := by decide +kernel
theorem dX7_isHour_1 : decode cX7_isHour 1 = .ok (.iconst 0, 1) := by decide +kernel
theorem dX7_isHour_2 : decode cX7_isHour 2 = .ok (.bipush 23, 2) := by decide +kernel
theorem dX7_isHour_4 : decode cX7_isHour 4 = .ok (.invokestatic 35, 3) := by decide +kernel
theorem dX7_isHour_7 : decode cX7_isHour 7 = .ok (.ireturn, 1) := by decide +kernel
theorem dX7_of_0 : decode cX7_of 0 = .ok (.aload_n 0, 1) := by decide +kernel
theorem dX7_of_1 : decode cX7_of 1 = .ok (.getfield 7, 3) := by decide +kernel
theorem dX7_of_4 : decode cX7_of 4 = .ok (.bipush 83, 2) := by decide +kernel
theorem dX7_of_6 : decode cX7_of 6 = .ok (.iconst 4, 1) := by decide +kernel
theorem dX7_of_7 : decode cX7_of 7 = .ok (.iload_n 1, 1) := by decide +kernel
theorem dX7_of_8 : decode cX7_of 8 = .ok (.imul, 1) := by decide +kernel
theorem dX7_of_9 : decode cX7_of 9 = .ok (.iadd, 1) := by decide +kernel
theorem dX7_of_10 : decode cX7_of 10 = .ok (.iload_n 2, 1) := by decide +kernel
theorem dX7_of_11 : decode cX7_of 11 = .ok (.iadd, 1) := by decide +kernel
theorem dX7_of_12 : decode cX7_of 12 = .ok (.iaload, 1) := by decide +kernel
theorem dX7_of_13 : decode cX7_of 13 = .ok (.ireturn, 1) := by decide +kernel
theorem dX7_lays_0 : decode cX7_lays 0 = .ok (.iconst 0, 1) := by decide +kernel
theorem dX7_lays_1 : decode cX7_lays 1 = .ok (.istore 4, 2) := by decide +kernel
theorem dX7_lays_3 : decode cX7_lays 3 = .ok (.iload 4, 2) := by decide +kernel
theorem dX7_lays_5 : decode cX7_lays 5 = .ok (.bipush 115, 2) := by decide +kernel
theorem dX7_lays_7 : decode cX7_lays 7 = .ok (.if_icmp .ge 21, 3) := by decide +kernel
theorem dX7_lays_10 : decode cX7_lays 10 = .ok (.aload_n 2, 1) := by decide +kernel
theorem dX7_lays_11 : decode cX7_lays 11 = .ok (.iload_n 3, 1) := by decide +kernel
theorem dX7_lays_12 : decode cX7_lays 12 = .ok (.iload 4, 2) := by decide +kernel
theorem dX7_lays_14 : decode cX7_lays 14 = .ok (.iadd, 1) := by decide +kernel
theorem dX7_lays_15 : decode cX7_lays 15 = .ok (.aload_n 0, 1) := by decide +kernel
theorem dX7_lays_16 : decode cX7_lays 16 = .ok (.iload_n 1, 1) := by decide +kernel
theorem dX7_lays_17 : decode cX7_lays 17 = .ok (.iload 4, 2) := by decide +kernel
theorem dX7_lays_19 : decode cX7_lays 19 = .ok (.iadd, 1) := by decide +kernel
theorem dX7_lays_20 : decode cX7_lays 20 = .ok (.iaload, 1) := by decide +kernel
theorem dX7_lays_21 : decode cX7_lays 21 = .ok (.iastore, 1) := by decide +kernel
theorem dX7_lays_22 : decode cX7_lays 22 = .ok (.iinc 4 1, 3) := by decide +kernel
theorem dX7_lays_25 : decode cX7_lays 25 = .ok (.goto (-22), 3) := by decide +kernel
theorem dX7_lays_28 : decode cX7_lays 28 = .ok (.return_, 1) := by decide +kernel
set_option maxRecDepth 20000 in
theorem ggX7_records_X7_lays : GoodIn wsX7_records wsX7_lays := goodIn_r _ [7] (by decide +kernel) (by decide +kernel)
set_option maxRecDepth 20000 in
theorem gX7_records_X7_lays : GoodIn wsX7_records (va_wsS RX7 43 yX7_lays wsX7_lays) := goodIn_app (goodIn_of _ (by decide +kernel)) ggX7_records_X7_lays
theorem dX7_records_0 : decode cX7_records 0 = .ok (.aload_n 0, 1) := by decide +kernel
theorem dX7_records_1 : decode cX7_records 1 = .ok (.getfield 39, 3) := by decide +kernel
theorem dX7_records_4 : decode cX7_records 4 = .ok (.bipush 6, 2) := by decide +kernel
theorem dX7_records_6 : decode cX7_records 6 = .ok (.if_icmp .ne 43, 3) := by decide +kernel
theorem dX7_records_9 : decode cX7_records 9 = .ok (.iconst 0, 1) := by decide +kernel
theorem dX7_records_10 : decode cX7_records 10 = .ok (.istore_n 1, 1) := by decide +kernel
theorem dX7_records_11 : decode cX7_records 11 = .ok (.iload_n 1, 1) := by decide +kernel
theorem dX7_records_12 : decode cX7_records 12 = .ok (.sipush 575, 3) := by decide +kernel
theorem dX7_records_15 : decode cX7_records 15 = .ok (.if_icmp .ge 24, 3) := by decide +kernel
theorem dX7_records_18 : decode cX7_records 18 = .ok (.aload_n 0, 1) := by decide +kernel
theorem dX7_records_19 : decode cX7_records 19 = .ok (.getfield 13, 3) := by decide +kernel
theorem dX7_records_22 : decode cX7_records 22 = .ok (.iload_n 1, 1) := by decide +kernel
theorem dX7_records_23 : decode cX7_records 23 = .ok (.aload_n 0, 1) := by decide +kernel
theorem dX7_records_24 : decode cX7_records 24 = .ok (.getfield 13, 3) := by decide +kernel
theorem dX7_records_27 : decode cX7_records 27 = .ok (.iload_n 1, 1) := by decide +kernel
theorem dX7_records_28 : decode cX7_records 28 = .ok (.bipush 115, 2) := by decide +kernel
theorem dX7_records_30 : decode cX7_records 30 = .ok (.iadd, 1) := by decide +kernel
theorem dX7_records_31 : decode cX7_records 31 = .ok (.iaload, 1) := by decide +kernel
theorem dX7_records_32 : decode cX7_records 32 = .ok (.iastore, 1) := by decide +kernel
theorem dX7_records_33 : decode cX7_records 33 = .ok (.iinc 1 1, 3) := by decide +kernel
theorem dX7_records_36 : decode cX7_records 36 = .ok (.goto (-25), 3) := by decide +kernel
theorem dX7_records_39 : decode cX7_records 39 = .ok (.aload_n 0, 1) := by decide +kernel
theorem dX7_records_40 : decode cX7_records 40 = .ok (.dup, 1) := by decide +kernel
theorem dX7_records_41 : decode cX7_records 41 = .ok (.getfield 39, 3) := by decide +kernel
theorem dX7_records_44 : decode cX7_records 44 = .ok (.iconst 1, 1) := by decide +kernel
theorem dX7_records_45 : decode cX7_records 45 = .ok (.isub, 1) := by decide +kernel
theorem dX7_records_46 : decode cX7_records 46 = .ok (.putfield 39, 3) := by decide +kernel
theorem dX7_records_49 : decode cX7_records 49 = .ok (.aload_n 0, 1) := by decide +kernel
theorem dX7_records_50 : decode cX7_records 50 = .ok (.getfield 7, 3) := by decide +kernel
theorem dX7_records_53 : decode cX7_records 53 = .ok (.iconst 0, 1) := by decide +kernel
theorem dX7_records_54 : decode cX7_records 54 = .ok (.aload_n 0, 1) := by decide +kernel
theorem dX7_records_55 : decode cX7_records 55 = .ok (.getfield 13, 3) := by decide +kernel
theorem dX7_records_58 : decode cX7_records 58 = .ok (.bipush 115, 2) := by decide +kernel
theorem dX7_records_60 : decode cX7_records 60 = .ok (.aload_n 0, 1) := by decide +kernel
theorem dX7_records_61 : decode cX7_records 61 = .ok (.getfield 39, 3) := by decide +kernel
theorem dX7_records_64 : decode cX7_records 64 = .ok (.imul, 1) := by decide +kernel
theorem dX7_records_65 : decode cX7_records 65 = .ok (.invokestatic 43, 3) := by decide +kernel
theorem dX7_records_68 : decode cX7_records 68 = .ok (.aload_n 0, 1) := by decide +kernel
theorem dX7_records_69 : decode cX7_records 69 = .ok (.dup, 1) := by decide +kernel
theorem dX7_records_70 : decode cX7_records 70 = .ok (.getfield 39, 3) := by decide +kernel
theorem dX7_records_73 : decode cX7_records 73 = .ok (.iconst 1, 1) := by decide +kernel
theorem dX7_records_74 : decode cX7_records 74 = .ok (.iadd, 1) := by decide +kernel
theorem dX7_records_75 : decode cX7_records 75 = .ok (.putfield 39, 3) := by decide +kernel
theorem dX7_records_78 : decode cX7_records 78 = .ok (.return_, 1) := by decide +kernel
set_option maxRecDepth 20000 in
theorem ggX7_undo_X7_lays : GoodIn wsX7_undo wsX7_lays := goodIn_r _ [7] (by decide +kernel) (by decide +kernel)
set_option maxRecDepth 20000 in
theorem gX7_undo_X7_lays : GoodIn wsX7_undo (va_wsS RX7 43 yX7_lays wsX7_lays) := goodIn_app (goodIn_of _ (by decide +kernel)) ggX7_undo_X7_lays
theorem dX7_undo_0 : decode cX7_undo 0 = .ok (.aload_n 0, 1) := by decide +kernel
theorem dX7_undo_1 : decode cX7_undo 1 = .ok (.getfield 39, 3) := by decide +kernel
theorem dX7_undo_4 : decode cX7_undo 4 = .ok (.ifCond .ne 6, 3) := by decide +kernel
theorem dX7_undo_7 : decode cX7_undo 7 = .ok (.bipush (-5), 2) := by decide +kernel
theorem dX7_undo_9 : decode cX7_undo 9 = .ok (.ireturn, 1) := by decide +kernel
theorem dX7_undo_10 : decode cX7_undo 10 = .ok (.aload_n 0, 1) := by decide +kernel
theorem dX7_undo_11 : decode cX7_undo 11 = .ok (.dup, 1) := by decide +kernel
theorem dX7_undo_12 : decode cX7_undo 12 = .ok (.getfield 39, 3) := by decide +kernel
theorem dX7_undo_15 : decode cX7_undo 15 = .ok (.iconst 1, 1) := by decide +kernel
theorem dX7_undo_16 : decode cX7_undo 16 = .ok (.isub, 1) := by decide +kernel
theorem dX7_undo_17 : decode cX7_undo 17 = .ok (.putfield 39, 3) := by decide +kernel
theorem dX7_undo_20 : decode cX7_undo 20 = .ok (.aload_n 0, 1) := by decide +kernel
theorem dX7_undo_21 : decode cX7_undo 21 = .ok (.getfield 13, 3) := by decide +kernel
theorem dX7_undo_24 : decode cX7_undo 24 = .ok (.bipush 115, 2) := by decide +kernel
theorem dX7_undo_26 : decode cX7_undo 26 = .ok (.aload_n 0, 1) := by decide +kernel
theorem dX7_undo_27 : decode cX7_undo 27 = .ok (.getfield 39, 3) := by decide +kernel
theorem dX7_undo_30 : decode cX7_undo 30 = .ok (.imul, 1) := by decide +kernel
theorem dX7_undo_31 : decode cX7_undo 31 = .ok (.aload_n 0, 1) := by decide +kernel
theorem dX7_undo_32 : decode cX7_undo 32 = .ok (.getfield 7, 3) := by decide +kernel
theorem dX7_undo_35 : decode cX7_undo 35 = .ok (.iconst 0, 1) := by decide +kernel
theorem dX7_undo_36 : decode cX7_undo 36 = .ok (.invokestatic 43, 3) := by decide +kernel
theorem dX7_undo_39 : decode cX7_undo 39 = .ok (.aload_n 0, 1) := by decide +kernel
theorem dX7_undo_40 : decode cX7_undo 40 = .ok (.getfield 39, 3) := by decide +kernel
theorem dX7_undo_43 : decode cX7_undo 43 = .ok (.ireturn, 1) := by decide +kernel
set_option maxRecDepth 20000 in
theorem ggX7_save_X7_in : GoodIn wsX7_save wsX7_in := goodIn_r _ [7] (by decide +kernel) (by decide +kernel)
set_option maxRecDepth 20000 in
theorem gX7_save_X7_in : GoodIn wsX7_save (va_wsS RX7 35 yX7_in wsX7_in) := goodIn_app (goodIn_of _ (by decide +kernel)) ggX7_save_X7_in
set_option maxRecDepth 20000 in
theorem ggX7_save_X7_lays : GoodIn wsX7_save wsX7_lays := goodIn_r _ [10] (by decide +kernel) (by decide +kernel)
set_option maxRecDepth 20000 in
theorem gX7_save_X7_lays : GoodIn wsX7_save (va_wsS RX7 43 yX7_lays wsX7_lays) := goodIn_app (goodIn_of _ (by decide +kernel)) ggX7_save_X7_lays
set_option maxRecDepth 20000 in
theorem ggX7_save_X7_daily : GoodIn wsX7_save wsX7_daily := goodIn_r _ [14, 15, 1, 16, 17, 18, 19, 6, 20, 21, 22, 23, 24, 25, 26, 27, 28, 29, 30, 31, 32, 33, 34, 35, 36, 37, 38, 39, 40, 41, 42, 43, 44, 45, 46, 47, 48, 49, 50, 51, 52, 53, 54, 55, 56, 57, 58, 59, 60, 61, 62, 63] (by decide +kernel) (by decide +kernel)
set_option maxRecDepth 20000 in
theorem gX7_save_X7_daily : GoodIn wsX7_save (wsV RX7 47 RX7 yX7_daily wsX7_daily) := goodIn_app (goodIn_of _ (by decide +kernel)) ggX7_save_X7_daily
theorem dX7_save_0 : decode cX7_save 0 = .ok (.iload_n 1, 1) := by decide +kernel
theorem dX7_save_1 : decode cX7_save 1 = .ok (.iconst 0, 1) := by decide +kernel
theorem dX7_save_2 : decode cX7_save 2 = .ok (.iconst 1, 1) := by decide +kernel
theorem dX7_save_3 : decode cX7_save 3 = .ok (.invokestatic 35, 3) := by decide +kernel
theorem dX7_save_6 : decode cX7_save 6 = .ok (.ifCond .ne 6, 3) := by decide +kernel
theorem dX7_save_9 : decode cX7_save 9 = .ok (.bipush (-2), 2) := by decide +kernel
theorem dX7_save_11 : decode cX7_save 11 = .ok (.ireturn, 1) := by decide +kernel
theorem dX7_save_12 : decode cX7_save 12 = .ok (.aload_n 0, 1) := by decide +kernel
theorem dX7_save_13 : decode cX7_save 13 = .ok (.getfield 7, 3) := by decide +kernel
theorem dX7_save_16 : decode cX7_save 16 = .ok (.iconst 0, 1) := by decide +kernel
theorem dX7_save_17 : decode cX7_save 17 = .ok (.aload_n 0, 1) := by decide +kernel
theorem dX7_save_18 : decode cX7_save 18 = .ok (.getfield 16, 3) := by decide +kernel
theorem dX7_save_21 : decode cX7_save 21 = .ok (.bipush 115, 2) := by decide +kernel
theorem dX7_save_23 : decode cX7_save 23 = .ok (.iload_n 1, 1) := by decide +kernel
theorem dX7_save_24 : decode cX7_save 24 = .ok (.imul, 1) := by decide +kernel
theorem dX7_save_25 : decode cX7_save 25 = .ok (.invokestatic 43, 3) := by decide +kernel
theorem dX7_save_28 : decode cX7_save 28 = .ok (.aload_n 0, 1) := by decide +kernel
theorem dX7_save_29 : decode cX7_save 29 = .ok (.getfield 19, 3) := by decide +kernel
theorem dX7_save_32 : decode cX7_save 32 = .ok (.iload_n 1, 1) := by decide +kernel
theorem dX7_save_33 : decode cX7_save 33 = .ok (.iconst 1, 1) := by decide +kernel
theorem dX7_save_34 : decode cX7_save 34 = .ok (.bastore, 1) := by decide +kernel
theorem dX7_save_35 : decode cX7_save 35 = .ok (.aload_n 0, 1) := by decide +kernel
theorem dX7_save_36 : decode cX7_save 36 = .ok (.iconst 0, 1) := by decide +kernel
