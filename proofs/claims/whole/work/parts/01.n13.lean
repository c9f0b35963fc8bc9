theorem dX7_ofContract_56 : decode cX7_ofContract 56 = .ok (.aload_n 0, 1) := by decide +kernel
theorem dX7_ofContract_57 : decode cX7_ofContract 57 = .ok (.iload_n 1, 1) := by decide +kernel
theorem dX7_ofContract_58 : decode cX7_ofContract 58 = .ok (.iconst 0, 1) := by decide +kernel
theorem dX7_ofContract_59 : decode cX7_ofContract 59 = .ok (.invokevirtual 72, 3) := by decide +kernel
theorem dX7_ofContract_62 : decode cX7_ofContract 62 = .ok (.invokevirtual 76, 3) := by decide +kernel
theorem dX7_ofContract_65 : decode cX7_ofContract 65 = .ok (.ifCond .eq 7, 3) := by decide +kernel
theorem dX7_ofContract_68 : decode cX7_ofContract 68 = .ok (.iconst 0, 1) := by decide +kernel
theorem dX7_ofContract_69 : decode cX7_ofContract 69 = .ok (.goto 4, 3) := by decide +kernel
theorem dX7_ofContract_72 : decode cX7_ofContract 72 = .ok (.iconst 1, 1) := by decide +kernel
theorem dX7_ofContract_73 : decode cX7_ofContract 73 = .ok (.ireturn, 1) := by decide +kernel
set_option maxRecDepth 20000 in
theorem ggX7_inHour_X7_money : GoodIn wsX7_inHour wsX7_money := goodIn_r _ [11, 5, 1, 2, 12, 13, 14, 10, 15, 16, 17, 18, 19, 24, 25, 26, 27, 28, 29, 30, 31, 32, 33, 34, 35, 36, 37, 38, 39, 40, 41] (by decide +kernel) (by decide +kernel)
set_option maxRecDepth 20000 in
theorem gX7_inHour_X7_money : GoodIn wsX7_inHour (wsV RX7 92 RX7 yX7_money wsX7_money) := goodIn_app (goodIn_of _ (by decide +kernel)) ggX7_inHour_X7_money
set_option maxRecDepth 20000 in
theorem ggX7_inHour_X7_missed : GoodIn wsX7_inHour wsX7_missed := goodIn_r _ [23, 5, 16, 17, 18, 10, 19, 1, 12, 13, 14, 15, 24, 25, 26, 27, 28, 29, 30, 31, 32, 33, 34, 35, 36, 37, 38, 39, 40, 41] (by decide +kernel) (by decide +kernel)
set_option maxRecDepth 20000 in
theorem gX7_inHour_X7_missed : GoodIn wsX7_inHour (wsV RX7 80 RX7 yX7_missed wsX7_missed) := goodIn_app (goodIn_of _ (by decide +kernel)) ggX7_inHour_X7_missed
theorem dX7_inHour_0 : decode cX7_inHour 0 = .ok (.iload_n 2, 1) := by decide +kernel
theorem dX7_inHour_1 : decode cX7_inHour 1 = .ok (.tableswitch 119 0 8 #[51, 57, 62, 67, 72, 119, 77, 96, 113], 51) := by decide +kernel
theorem dX7_inHour_52 : decode cX7_inHour 52 = .ok (.aload_n 0, 1) := by decide +kernel
theorem dX7_inHour_53 : decode cX7_inHour 53 = .ok (.iload_n 1, 1) := by decide +kernel
theorem dX7_inHour_54 : decode cX7_inHour 54 = .ok (.invokevirtual 92, 3) := by decide +kernel
theorem dX7_inHour_57 : decode cX7_inHour 57 = .ok (.ireturn, 1) := by decide +kernel
theorem dX7_inHour_58 : decode cX7_inHour 58 = .ok (.aload_n 0, 1) := by decide +kernel
theorem dX7_inHour_59 : decode cX7_inHour 59 = .ok (.getfield 66, 3) := by decide +kernel
theorem dX7_inHour_62 : decode cX7_inHour 62 = .ok (.ireturn, 1) := by decide +kernel
theorem dX7_inHour_63 : decode cX7_inHour 63 = .ok (.aload_n 0, 1) := by decide +kernel
theorem dX7_inHour_64 : decode cX7_inHour 64 = .ok (.getfield 54, 3) := by decide +kernel
theorem dX7_inHour_67 : decode cX7_inHour 67 = .ok (.ireturn, 1) := by decide +kernel
theorem dX7_inHour_68 : decode cX7_inHour 68 = .ok (.aload_n 0, 1) := by decide +kernel
theorem dX7_inHour_69 : decode cX7_inHour 69 = .ok (.getfield 57, 3) := by decide +kernel
theorem dX7_inHour_72 : decode cX7_inHour 72 = .ok (.ireturn, 1) := by decide +kernel
theorem dX7_inHour_73 : decode cX7_inHour 73 = .ok (.aload_n 0, 1) := by decide +kernel
theorem dX7_inHour_74 : decode cX7_inHour 74 = .ok (.getfield 69, 3) := by decide +kernel
theorem dX7_inHour_77 : decode cX7_inHour 77 = .ok (.ireturn, 1) := by decide +kernel
theorem dX7_inHour_78 : decode cX7_inHour 78 = .ok (.aload_n 0, 1) := by decide +kernel
theorem dX7_inHour_79 : decode cX7_inHour 79 = .ok (.getfield 66, 3) := by decide +kernel
theorem dX7_inHour_82 : decode cX7_inHour 82 = .ok (.aload_n 0, 1) := by decide +kernel
theorem dX7_inHour_83 : decode cX7_inHour 83 = .ok (.getfield 7, 3) := by decide +kernel
theorem dX7_inHour_86 : decode cX7_inHour 86 = .ok (.iconst 4, 1) := by decide +kernel
theorem dX7_inHour_87 : decode cX7_inHour 87 = .ok (.iaload, 1) := by decide +kernel
theorem dX7_inHour_88 : decode cX7_inHour 88 = .ok (.if_icmp .ge 7, 3) := by decide +kernel
theorem dX7_inHour_91 : decode cX7_inHour 91 = .ok (.iconst 1, 1) := by decide +kernel
theorem dX7_inHour_92 : decode cX7_inHour 92 = .ok (.goto 4, 3) := by decide +kernel
theorem dX7_inHour_95 : decode cX7_inHour 95 = .ok (.iconst 0, 1) := by decide +kernel
theorem dX7_inHour_96 : decode cX7_inHour 96 = .ok (.ireturn, 1) := by decide +kernel
theorem dX7_inHour_97 : decode cX7_inHour 97 = .ok (.aload_n 0, 1) := by decide +kernel
theorem dX7_inHour_98 : decode cX7_inHour 98 = .ok (.getfield 66, 3) := by decide +kernel
theorem dX7_inHour_101 : decode cX7_inHour 101 = .ok (.aload_n 0, 1) := by decide +kernel
theorem dX7_inHour_102 : decode cX7_inHour 102 = .ok (.getfield 63, 3) := by decide +kernel
theorem dX7_inHour_105 : decode cX7_inHour 105 = .ok (.if_icmp .ge 7, 3) := by decide +kernel
theorem dX7_inHour_108 : decode cX7_inHour 108 = .ok (.iconst 1, 1) := by decide +kernel
theorem dX7_inHour_109 : decode cX7_inHour 109 = .ok (.goto 4, 3) := by decide +kernel
theorem dX7_inHour_112 : decode cX7_inHour 112 = .ok (.iconst 0, 1) := by decide +kernel
theorem dX7_inHour_113 : decode cX7_inHour 113 = .ok (.ireturn, 1) := by decide +kernel
theorem dX7_inHour_114 : decode cX7_inHour 114 = .ok (.aload_n 0, 1) := by decide +kernel
theorem dX7_inHour_115 : decode cX7_inHour 115 = .ok (.iload_n 1, 1) := by decide +kernel
theorem dX7_inHour_116 : decode cX7_inHour 116 = .ok (.invokevirtual 80, 3) := by decide +kernel
theorem dX7_inHour_119 : decode cX7_inHour 119 = .ok (.ireturn, 1) := by decide +kernel
theorem dX7_inHour_120 : decode cX7_inHour 120 = .ok (.aload_n 0, 1) := by decide +kernel
theorem dX7_inHour_121 : decode cX7_inHour 121 = .ok (.getfield 7, 3) := by decide +kernel
theorem dX7_inHour_124 : decode cX7_inHour 124 = .ok (.bipush 34, 2) := by decide +kernel
theorem dX7_inHour_126 : decode cX7_inHour 126 = .ok (.iload_n 1, 1) := by decide +kernel
theorem dX7_inHour_127 : decode cX7_inHour 127 = .ok (.iadd, 1) := by decide +kernel
theorem dX7_inHour_128 : decode cX7_inHour 128 = .ok (.iaload, 1) := by decide +kernel
theorem dX7_inHour_129 : decode cX7_inHour 129 = .ok (.ireturn, 1) := by decide +kernel
set_option maxRecDepth 20000 in
theorem ggX7_daily_X7_goes : GoodIn wsX7_daily wsX7_goes := goodIn_r _ [8, 9, 2, 10, 3, 11, 12, 13, 34, 35, 36, 37, 38, 39, 40, 41, 42, 43, 44, 45, 46, 47, 48, 49, 50, 51] (by decide +kernel) (by decide +kernel)
set_option maxRecDepth 20000 in
theorem gX7_daily_X7_goes : GoodIn wsX7_daily (wsV RX7 83 RX7 yX7_goes wsX7_goes) := goodIn_app (goodIn_of _ (by decide +kernel)) ggX7_daily_X7_goes
set_option maxRecDepth 20000 in
theorem ggX7_daily_X7_inHour : GoodIn wsX7_daily wsX7_inHour := goodIn_r _ [17, 12, 9, 10, 13, 2, 11, 18, 19, 20, 7, 21, 22, 23, 24, 25, 26, 27, 28, 29, 30, 31, 32, 33, 34, 35, 36, 37, 38, 39, 40, 41, 42, 43, 44, 45, 46, 47, 48, 49, 50, 51] (by decide +kernel) (by decide +kernel)
set_option maxRecDepth 20000 in
theorem gX7_daily_X7_inHour : GoodIn wsX7_daily (wsV RX7 149 RX7 yX7_inHour wsX7_inHour) := goodIn_app (goodIn_of _ (by decide +kernel)) ggX7_daily_X7_inHour
theorem dX7_daily_0 : decode cX7_daily 0 = .ok (.iload_n 1, 1) := by decide +kernel
theorem dX7_daily_1 : decode cX7_daily 1 = .ok (.ifCond .ne 8, 3) := by decide +kernel
theorem dX7_daily_4 : decode cX7_daily 4 = .ok (.ldc 148, 2) := by decide +kernel
theorem dX7_daily_6 : decode cX7_daily 6 = .ok (.goto 4, 3) := by decide +kernel
theorem dX7_daily_9 : decode cX7_daily 9 = .ok (.iconst 0, 1) := by decide +kernel
theorem dX7_daily_10 : decode cX7_daily 10 = .ok (.istore_n 2, 1) := by decide +kernel
theorem dX7_daily_11 : decode cX7_daily 11 = .ok (.aload_n 0, 1) := by decide +kernel
theorem dX7_daily_12 : decode cX7_daily 12 = .ok (.aload_n 0, 1) := by decide +kernel
theorem dX7_daily_13 : decode cX7_daily 13 = .ok (.getfield 7, 3) := by decide +kernel
theorem dX7_daily_16 : decode cX7_daily 16 = .ok (.bipush 7, 2) := by decide +kernel
theorem dX7_daily_18 : decode cX7_daily 18 = .ok (.iaload, 1) := by decide +kernel
theorem dX7_daily_19 : decode cX7_daily 19 = .ok (.putfield 60, 3) := by decide +kernel
theorem dX7_daily_22 : decode cX7_daily 22 = .ok (.iconst 0, 1) := by decide +kernel
theorem dX7_daily_23 : decode cX7_daily 23 = .ok (.istore_n 3, 1) := by decide +kernel
theorem dX7_daily_24 : decode cX7_daily 24 = .ok (.iload_n 3, 1) := by decide +kernel
theorem dX7_daily_25 : decode cX7_daily 25 = .ok (.bipush 24, 2) := by decide +kernel
theorem dX7_daily_27 : decode cX7_daily 27 = .ok (.if_icmp .ge 36, 3) := by decide +kernel
theorem dX7_daily_30 : decode cX7_daily 30 = .ok (.aload_n 0, 1) := by decide +kernel
theorem dX7_daily_31 : decode cX7_daily 31 = .ok (.iload_n 3, 1) := by decide +kernel
theorem dX7_daily_32 : decode cX7_daily 32 = .ok (.aload_n 0, 1) := by decide +kernel
theorem dX7_daily_33 : decode cX7_daily 33 = .ok (.getfield 60, 3) := by decide +kernel
theorem dX7_daily_36 : decode cX7_daily 36 = .ok (.aload_n 0, 1) := by decide +kernel
theorem dX7_daily_37 : decode cX7_daily 37 = .ok (.getfield 7, 3) := by decide +kernel
theorem dX7_daily_40 : decode cX7_daily 40 = .ok (.bipush 58, 2) := by decide +kernel
theorem dX7_daily_42 : decode cX7_daily 42 = .ok (.iload_n 3, 1) := by decide +kernel
theorem dX7_daily_43 : decode cX7_daily 43 = .ok (.iadd, 1) := by decide +kernel
theorem dX7_daily_44 : decode cX7_daily 44 = .ok (.iaload, 1) := by decide +kernel
theorem dX7_daily_45 : decode cX7_daily 45 = .ok (.invokevirtual 83, 3) := by decide +kernel
theorem dX7_daily_48 : decode cX7_daily 48 = .ok (.iload_n 2, 1) := by decide +kernel
theorem dX7_daily_49 : decode cX7_daily 49 = .ok (.aload_n 0, 1) := by decide +kernel
theorem dX7_daily_50 : decode cX7_daily 50 = .ok (.iload_n 3, 1) := by decide +kernel
theorem dX7_daily_51 : decode cX7_daily 51 = .ok (.iload_n 1, 1) := by decide +kernel
theorem dX7_daily_52 : decode cX7_daily 52 = .ok (.invokevirtual 149, 3) := by decide +kernel
theorem dX7_daily_55 : decode cX7_daily 55 = .ok (.iadd, 1) := by decide +kernel
theorem dX7_daily_56 : decode cX7_daily 56 = .ok (.istore_n 2, 1) := by decide +kernel
theorem dX7_daily_57 : decode cX7_daily 57 = .ok (.iinc 3 1, 3) := by decide +kernel
theorem dX7_daily_60 : decode cX7_daily 60 = .ok (.goto (-36), 3) := by decide +kernel
theorem dX7_daily_63 : decode cX7_daily 63 = .ok (.iload_n 1, 1) := by decide +kernel
theorem dX7_daily_64 : decode cX7_daily 64 = .ok (.iconst 5, 1) := by decide +kernel
theorem dX7_daily_65 : decode cX7_daily 65 = .ok (.if_icmp .ne 10, 3) := by decide +kernel
theorem dX7_daily_68 : decode cX7_daily 68 = .ok (.aload_n 0, 1) := by decide +kernel
theorem dX7_daily_69 : decode cX7_daily 69 = .ok (.getfield 60, 3) := by decide +kernel
theorem dX7_daily_72 : decode cX7_daily 72 = .ok (.goto 32, 3) := by decide +kernel
theorem dX7_daily_75 : decode cX7_daily 75 = .ok (.iload_n 1, 1) := by decide +kernel
theorem dX7_daily_76 : decode cX7_daily 76 = .ok (.bipush 9, 2) := by decide +kernel
theorem dX7_daily_78 : decode cX7_daily 78 = .ok (.if_icmp .ne 25, 3) := by decide +kernel
theorem dX7_daily_81 : decode cX7_daily 81 = .ok (.aload_n 0, 1) := by decide +kernel
theorem dX7_daily_82 : decode cX7_daily 82 = .ok (.getfield 60, 3) := by decide +kernel
theorem dX7_daily_85 : decode cX7_daily 85 = .ok (.aload_n 0, 1) := by decide +kernel
theorem dX7_daily_86 : decode cX7_daily 86 = .ok (.getfield 7, 3) := by decide +kernel
theorem dX7_daily_89 : decode cX7_daily 89 = .ok (.bipush 8, 2) := by decide +kernel
theorem dX7_daily_91 : decode cX7_daily 91 = .ok (.iaload, 1) := by decide +kernel
theorem dX7_daily_92 : decode cX7_daily 92 = .ok (.if_icmp .lt 7, 3) := by decide +kernel
theorem dX7_daily_95 : decode cX7_daily 95 = .ok (.iconst 1, 1) := by decide +kernel
theorem dX7_daily_96 : decode cX7_daily 96 = .ok (.goto 8, 3) := by decide +kernel
theorem dX7_daily_99 : decode cX7_daily 99 = .ok (.iconst 0, 1) := by decide +kernel
theorem dX7_daily_100 : decode cX7_daily 100 = .ok (.goto 4, 3) := by decide +kernel
theorem dX7_daily_103 : decode cX7_daily 103 = .ok (.iload_n 2, 1) := by decide +kernel
theorem dX7_daily_104 : decode cX7_daily 104 = .ok (.ireturn, 1) := by decide +kernel
set_option maxRecDepth 20000 in
theorem ggX7_day_X7_in : GoodIn wsX7_day wsX7_in := goodIn_r _ [4] (by decide +kernel) (by decide +kernel)
set_option maxRecDepth 20000 in
theorem gX7_day_X7_in : GoodIn wsX7_day (va_wsS RX7 35 yX7_in wsX7_in) := goodIn_app (goodIn_of _ (by decide +kernel)) ggX7_day_X7_in
set_option maxRecDepth 20000 in
theorem ggX7_day_X7_daily : GoodIn wsX7_day wsX7_daily := goodIn_r _ [8, 9, 10, 11, 12, 13, 14, 3, 15, 16, 17, 18, 19, 20, 21, 22, 23, 24, 25, 26, 27, 28, 29, 30, 31, 32, 33, 34, 35, 36, 37, 38, 39, 40, 41, 42, 43, 44, 45, 46, 47, 48, 49, 50, 51, 52, 53, 54, 55, 56, 57, 58] (by decide +kernel) (by decide +kernel)
set_option maxRecDepth 20000 in
theorem gX7_day_X7_daily : GoodIn wsX7_day (wsV RX7 47 RX7 yX7_daily wsX7_daily) := goodIn_app (goodIn_of _ (by decide +kernel)) ggX7_day_X7_daily
theorem dX7_day_0 : decode cX7_day 0 = .ok (.iload_n 1, 1) := by decide +kernel
theorem dX7_day_1 : decode cX7_day 1 = .ok (.iconst 0, 1) := by decide +kernel
theorem dX7_day_2 : decode cX7_day 2 = .ok (.bipush 10, 2) := by decide +kernel
theorem dX7_day_4 : decode cX7_day 4 = .ok (.invokestatic 35, 3) := by decide +kernel
theorem dX7_day_7 : decode cX7_day 7 = .ok (.ifCond .eq 11, 3) := by decide +kernel
theorem dX7_day_10 : decode cX7_day 10 = .ok (.aload_n 0, 1) := by decide +kernel
theorem dX7_day_11 : decode cX7_day 11 = .ok (.iload_n 1, 1) := by decide +kernel
theorem dX7_day_12 : decode cX7_day 12 = .ok (.invokevirtual 47, 3) := by decide +kernel
theorem dX7_day_15 : decode cX7_day 15 = .ok (.goto 5, 3) := by decide +kernel
theorem dX7_day_18 : decode cX7_day 18 = .ok (.bipush (-2), 2) := by decide +kernel
theorem dX7_day_20 : decode cX7_day 20 = .ok (.ireturn, 1) := by decide +kernel
set_option maxRecDepth 20000 in
theorem ggX7_troubled_X7_in : GoodIn wsX7_troubled wsX7_in := goodIn_r _ [6] (by decide +kernel) (by decide +kernel)
set_option maxRecDepth 20000 in
theorem gX7_troubled_X7_in : GoodIn wsX7_troubled (va_wsS RX7 35 yX7_in wsX7_in) := goodIn_app (goodIn_of _ (by decide +kernel)) ggX7_troubled_X7_in
set_option maxRecDepth 20000 in
theorem ggX7_troubled_X7_goes : GoodIn wsX7_troubled wsX7_goes := goodIn_r _ [10, 11, 1, 12, 2, 13, 14, 15, 32, 33, 34, 35, 36, 37, 38, 39, 40, 41, 42, 43, 44, 45, 46, 47, 48, 49] (by decide +kernel) (by decide +kernel)
set_option maxRecDepth 20000 in
theorem gX7_troubled_X7_goes : GoodIn wsX7_troubled (wsV RX7 83 RX7 yX7_goes wsX7_goes) := goodIn_app (goodIn_of _ (by decide +kernel)) ggX7_troubled_X7_goes
set_option maxRecDepth 20000 in
theorem ggX7_troubled_X7_trouble : GoodIn wsX7_troubled wsX7_trouble := goodIn_r _ [19, 14, 1, 13, 15, 20, 21, 22, 5, 23, 24, 25, 26, 27, 28, 29, 30, 31, 32, 33, 34, 35, 36, 37, 38, 39, 40, 41, 42, 43, 44, 45, 46, 47, 48, 49] (by decide +kernel) (by decide +kernel)
set_option maxRecDepth 20000 in
theorem gX7_troubled_X7_trouble : GoodIn wsX7_troubled (wsV RX7 142 RX7 yX7_trouble wsX7_trouble) := goodIn_app (goodIn_of _ (by decide +kernel)) ggX7_troubled_X7_trouble
theorem dX7_troubled_0 : decode cX7_troubled 0 = .ok (.iload_n 1, 1) := by decide +kernel
theorem dX7_troubled_1 : decode cX7_troubled 1 = .ok (.iconst 1, 1) := by decide +kernel
theorem dX7_troubled_2 : decode cX7_troubled 2 = .ok (.iconst 4, 1) := by decide +kernel
theorem dX7_troubled_3 : decode cX7_troubled 3 = .ok (.invokestatic 35, 3) := by decide +kernel
theorem dX7_troubled_6 : decode cX7_troubled 6 = .ok (.ifCond .ne 6, 3) := by decide +kernel
theorem dX7_troubled_9 : decode cX7_troubled 9 = .ok (.bipush (-2), 2) := by decide +kernel
theorem dX7_troubled_11 : decode cX7_troubled 11 = .ok (.ireturn, 1) := by decide +kernel
theorem dX7_troubled_12 : decode cX7_troubled 12 = .ok (.iconst 0, 1) := by decide +kernel
theorem dX7_troubled_13 : decode cX7_troubled 13 = .ok (.istore_n 2, 1) := by decide +kernel
theorem dX7_troubled_14 : decode cX7_troubled 14 = .ok (.aload_n 0, 1) := by decide +kernel
theorem dX7_troubled_15 : decode cX7_troubled 15 = .ok (.aload_n 0, 1) := by decide +kernel
theorem dX7_troubled_16 : decode cX7_troubled 16 = .ok (.getfield 7, 3) := by decide +kernel
theorem dX7_troubled_19 : decode cX7_troubled 19 = .ok (.bipush 7, 2) := by decide +kernel
theorem dX7_troubled_21 : decode cX7_troubled 21 = .ok (.iaload, 1) := by decide +kernel
theorem dX7_troubled_22 : decode cX7_troubled 22 = .ok (.putfield 60, 3) := by decide +kernel
theorem dX7_troubled_25 : decode cX7_troubled 25 = .ok (.iconst 0, 1) := by decide +kernel
theorem dX7_troubled_26 : decode cX7_troubled 26 = .ok (.istore_n 3, 1) := by decide +kernel
theorem dX7_troubled_27 : decode cX7_troubled 27 = .ok (.iload_n 3, 1) := by decide +kernel
theorem dX7_troubled_28 : decode cX7_troubled 28 = .ok (.bipush 24, 2) := by decide +kernel
theorem dX7_troubled_30 : decode cX7_troubled 30 = .ok (.if_icmp .ge 46, 3) := by decide +kernel
theorem dX7_troubled_33 : decode cX7_troubled 33 = .ok (.aload_n 0, 1) := by decide +kernel
theorem dX7_troubled_34 : decode cX7_troubled 34 = .ok (.iload_n 3, 1) := by decide +kernel
theorem dX7_troubled_35 : decode cX7_troubled 35 = .ok (.aload_n 0, 1) := by decide +kernel
theorem dX7_troubled_36 : decode cX7_troubled 36 = .ok (.getfield 60, 3) := by decide +kernel
theorem dX7_troubled_39 : decode cX7_troubled 39 = .ok (.aload_n 0, 1) := by decide +kernel
theorem dX7_troubled_40 : decode cX7_troubled 40 = .ok (.getfield 7, 3) := by decide +kernel
theorem dX7_troubled_43 : decode cX7_troubled 43 = .ok (.bipush 58, 2) := by decide +kernel
theorem dX7_troubled_45 : decode cX7_troubled 45 = .ok (.iload_n 3, 1) := by decide +kernel
theorem dX7_troubled_46 : decode cX7_troubled 46 = .ok (.iadd, 1) := by decide +kernel
theorem dX7_troubled_47 : decode cX7_troubled 47 = .ok (.iaload, 1) := by decide +kernel
theorem dX7_troubled_48 : decode cX7_troubled 48 = .ok (.invokevirtual 83, 3) := by decide +kernel
theorem dX7_troubled_51 : decode cX7_troubled 51 = .ok (.iload_n 2, 1) := by decide +kernel
theorem dX7_troubled_52 : decode cX7_troubled 52 = .ok (.aload_n 0, 1) := by decide +kernel
theorem dX7_troubled_53 : decode cX7_troubled 53 = .ok (.iload_n 3, 1) := by decide +kernel
theorem dX7_troubled_54 : decode cX7_troubled 54 = .ok (.invokevirtual 142, 3) := by decide +kernel
theorem dX7_troubled_57 : decode cX7_troubled 57 = .ok (.iload_n 1, 1) := by decide +kernel
theorem dX7_troubled_58 : decode cX7_troubled 58 = .ok (.if_icmp .ne 9, 3) := by decide +kernel
theorem dX7_troubled_61 : decode cX7_troubled 61 = .ok (.iconst 1, 1) := by decide +kernel
theorem dX7_troubled_62 : decode cX7_troubled 62 = .ok (.iload_n 3, 1) := by decide +kernel
theorem dX7_troubled_63 : decode cX7_troubled 63 = .ok (.ishl, 1) := by decide +kernel
theorem dX7_troubled_64 : decode cX7_troubled 64 = .ok (.goto 4, 3) := by decide +kernel
theorem dX7_troubled_67 : decode cX7_troubled 67 = .ok (.iconst 0, 1) := by decide +kernel
theorem dX7_troubled_68 : decode cX7_troubled 68 = .ok (.ior, 1) := by decide +kernel
theorem dX7_troubled_69 : decode cX7_troubled 69 = .ok (.istore_n 2, 1) := by decide +kernel
theorem dX7_troubled_70 : decode cX7_troubled 70 = .ok (.iinc 3 1, 3) := by decide +kernel
theorem dX7_troubled_73 : decode cX7_troubled 73 = .ok (.goto (-46), 3) := by decide +kernel
theorem dX7_troubled_76 : decode cX7_troubled 76 = .ok (.iload_n 2, 1) := by decide +kernel
theorem dX7_troubled_77 : decode cX7_troubled 77 = .ok (.ireturn, 1) := by decide +kernel
set_option maxRecDepth 20000 in
theorem ggX7_count_X7_in : GoodIn wsX7_count wsX7_in := goodIn_r _ [7] (by decide +kernel) (by decide +kernel)
set_option maxRecDepth 20000 in
theorem gX7_count_X7_in : GoodIn wsX7_count (va_wsS RX7 35 yX7_in wsX7_in) := goodIn_app (goodIn_of _ (by decide +kernel)) ggX7_count_X7_in
theorem dX7_count_0 : decode cX7_count 0 = .ok (.iload_n 1, 1) := by decide +kernel
theorem dX7_count_1 : decode cX7_count 1 = .ok (.iconst 0, 1) := by decide +kernel
theorem dX7_count_2 : decode cX7_count 2 = .ok (.bipush 12, 2) := by decide +kernel
theorem dX7_count_4 : decode cX7_count 4 = .ok (.invokestatic 35, 3) := by decide +kernel
theorem dX7_count_7 : decode cX7_count 7 = .ok (.ifCond .ne 6, 3) := by decide +kernel
theorem dX7_count_10 : decode cX7_count 10 = .ok (.bipush (-2), 2) := by decide +kernel
theorem dX7_count_12 : decode cX7_count 12 = .ok (.ireturn, 1) := by decide +kernel
theorem dX7_count_13 : decode cX7_count 13 = .ok (.iload_n 1, 1) := by decide +kernel
theorem dX7_count_14 : decode cX7_count 14 = .ok (.bipush 10, 2) := by decide +kernel
theorem dX7_count_16 : decode cX7_count 16 = .ok (.if_icmp .ge 12, 3) := by decide +kernel
theorem dX7_count_19 : decode cX7_count 19 = .ok (.aload_n 0, 1) := by decide +kernel
theorem dX7_count_20 : decode cX7_count 20 = .ok (.getfield 7, 3) := by decide +kernel
theorem dX7_count_23 : decode cX7_count 23 = .ok (.iload_n 1, 1) := by decide +kernel
theorem dX7_count_24 : decode cX7_count 24 = .ok (.iaload, 1) := by decide +kernel
theorem dX7_count_25 : decode cX7_count 25 = .ok (.goto 36, 3) := by decide +kernel
theorem dX7_count_28 : decode cX7_count 28 = .ok (.iload_n 1, 1) := by decide +kernel
theorem dX7_count_29 : decode cX7_count 29 = .ok (.bipush 10, 2) := by decide +kernel
theorem dX7_count_31 : decode cX7_count 31 = .ok (.if_icmp .ne 13, 3) := by decide +kernel
theorem dX7_count_34 : decode cX7_count 34 = .ok (.aload_n 0, 1) := by decide +kernel
theorem dX7_count_35 : decode cX7_count 35 = .ok (.getfield 7, 3) := by decide +kernel
theorem dX7_count_38 : decode cX7_count 38 = .ok (.bipush 82, 2) := by decide +kernel
theorem dX7_count_40 : decode cX7_count 40 = .ok (.iaload, 1) := by decide +kernel
theorem dX7_count_41 : decode cX7_count 41 = .ok (.goto 20, 3) := by decide +kernel
theorem dX7_count_44 : decode cX7_count 44 = .ok (.iload_n 1, 1) := by decide +kernel
theorem dX7_count_45 : decode cX7_count 45 = .ok (.bipush 11, 2) := by decide +kernel
theorem dX7_count_47 : decode cX7_count 47 = .ok (.if_icmp .ne 10, 3) := by decide +kernel
theorem dX7_count_50 : decode cX7_count 50 = .ok (.aload_n 0, 1) := by decide +kernel
theorem dX7_count_51 : decode cX7_count 51 = .ok (.getfield 152, 3) := by decide +kernel
theorem dX7_count_54 : decode cX7_count 54 = .ok (.goto 7, 3) := by decide +kernel
theorem dX7_count_57 : decode cX7_count 57 = .ok (.aload_n 0, 1) := by decide +kernel
theorem dX7_count_58 : decode cX7_count 58 = .ok (.getfield 39, 3) := by decide +kernel
theorem dX7_count_61 : decode cX7_count 61 = .ok (.ireturn, 1) := by decide +kernel
set_option maxRecDepth 20000 in
theorem ggX7_best_X7_isPlanned : GoodIn wsX7_best wsX7_isPlanned := goodIn_r _ [8, 1, 2, 9, 10, 11, 12, 7, 13, 14, 15, 16, 17, 18, 19, 20, 21, 22, 23, 24, 25, 26, 27, 28, 29, 30, 31, 32, 33, 34, 35, 36, 37, 38, 39, 40, 41, 42, 43, 44, 45, 46, 47, 48, 49, 50, 51, 52, 53, 54, 55, 56, 57] (by decide +kernel) (by decide +kernel)
set_option maxRecDepth 20000 in
theorem gX7_best_X7_isPlanned : GoodIn wsX7_best (wsV RX7 130 RX7 yX7_isPlanned wsX7_isPlanned) := goodIn_app (goodIn_of _ (by decide +kernel)) ggX7_best_X7_isPlanned
theorem dX7_best_0 : decode cX7_best 0 = .ok (.aload_n 0, 1) := by decide +kernel
theorem dX7_best_1 : decode cX7_best 1 = .ok (.invokevirtual 130, 3) := by decide +kernel
theorem dX7_best_4 : decode cX7_best 4 = .ok (.ifCond .eq 21, 3) := by decide +kernel
theorem dX7_best_7 : decode cX7_best 7 = .ok (.aload_n 0, 1) := by decide +kernel
theorem dX7_best_8 : decode cX7_best 8 = .ok (.getfield 29, 3) := by decide +kernel
theorem dX7_best_11 : decode cX7_best 11 = .ok (.aload_n 0, 1) := by decide +kernel
theorem dX7_best_12 : decode cX7_best 12 = .ok (.getfield 7, 3) := by decide +kernel
theorem dX7_best_15 : decode cX7_best 15 = .ok (.bipush 7, 2) := by decide +kernel
theorem dX7_best_17 : decode cX7_best 17 = .ok (.iaload, 1) := by decide +kernel
theorem dX7_best_18 : decode cX7_best 18 = .ok (.iaload, 1) := by decide +kernel
theorem dX7_best_19 : decode cX7_best 19 = .ok (.ldc 148, 2) := by decide +kernel
theorem dX7_best_21 : decode cX7_best 21 = .ok (.iadd, 1) := by decide +kernel
theorem dX7_best_22 : decode cX7_best 22 = .ok (.goto 5, 3) := by decide +kernel
theorem dX7_best_25 : decode cX7_best 25 = .ok (.bipush (-6), 2) := by decide +kernel
theorem dX7_best_27 : decode cX7_best 27 = .ok (.ireturn, 1) := by decide +kernel
set_option maxRecDepth 20000 in
theorem ggX7_bestPlan_X7_isHour : GoodIn wsX7_bestPlan wsX7_isHour := goodIn_r _ [6, 7, 8, 5, 9] (by decide +kernel) (by decide +kernel)
set_option maxRecDepth 20000 in
theorem gX7_bestPlan_X7_isHour : GoodIn wsX7_bestPlan (va_wsS RX7 107 yX7_isHour wsX7_isHour) := goodIn_app (goodIn_of _ (by decide +kernel)) ggX7_bestPlan_X7_isHour
set_option maxRecDepth 20000 in
theorem ggX7_bestPlan_X7_isPlanned : GoodIn wsX7_bestPlan wsX7_isPlanned := goodIn_r _ [13, 14, 1, 15, 16, 17, 18, 5, 19, 20, 21, 22, 23, 2, 24, 25, 26, 27, 28, 29, 30, 31, 32, 33, 34, 35, 36, 37, 38, 39, 40, 41, 42, 43, 44, 49, 50, 51, 52, 53, 54, 55, 56, 57, 58, 59, 60, 61, 62, 63, 64, 65, 66] (by decide +kernel) (by decide +kernel)
set_option maxRecDepth 20000 in
theorem gX7_bestPlan_X7_isPlanned : GoodIn wsX7_bestPlan (wsV RX7 130 RX7 yX7_isPlanned wsX7_isPlanned) := goodIn_app (goodIn_of _ (by decide +kernel)) ggX7_bestPlan_X7_isPlanned
set_option maxRecDepth 20000 in
theorem ggX7_bestPlan_X7_bestOf : GoodIn wsX7_bestPlan wsX7_bestOf := goodIn_r _ [48, 1, 14, 20, 21, 22, 5, 23, 2, 15, 24, 25, 26, 27, 28, 29, 30, 31, 32, 33, 34, 35, 36, 37, 38, 39, 40, 41, 42, 43, 44, 49, 50, 51, 52, 53, 54, 55, 56, 57, 58, 59, 60, 61, 62, 63, 64, 65, 66] (by decide +kernel) (by decide +kernel)
set_option maxRecDepth 20000 in
theorem gX7_bestPlan_X7_bestOf : GoodIn wsX7_bestPlan (wsV RX7 127 RX7 yX7_bestOf wsX7_bestOf) := goodIn_app (goodIn_of _ (by decide +kernel)) ggX7_bestPlan_X7_bestOf
theorem dX7_bestPlan_0 : decode cX7_bestPlan 0 = .ok (.iload_n 1, 1) := by decide +kernel
theorem dX7_bestPlan_1 : decode cX7_bestPlan 1 = .ok (.invokestatic 107, 3) := by decide +kernel
theorem dX7_bestPlan_4 : decode cX7_bestPlan 4 = .ok (.ifCond .ne 5, 3) := by decide +kernel
theorem dX7_bestPlan_7 : decode cX7_bestPlan 7 = .ok (.iconst (-1), 1) := by decide +kernel
theorem dX7_bestPlan_8 : decode cX7_bestPlan 8 = .ok (.ireturn, 1) := by decide +kernel
theorem dX7_bestPlan_9 : decode cX7_bestPlan 9 = .ok (.aload_n 0, 1) := by decide +kernel
theorem dX7_bestPlan_10 : decode cX7_bestPlan 10 = .ok (.invokevirtual 130, 3) := by decide +kernel
theorem dX7_bestPlan_13 : decode cX7_bestPlan 13 = .ok (.ifCond .ne 6, 3) := by decide +kernel
theorem dX7_bestPlan_16 : decode cX7_bestPlan 16 = .ok (.bipush (-6), 2) := by decide +kernel
theorem dX7_bestPlan_18 : decode cX7_bestPlan 18 = .ok (.ireturn, 1) := by decide +kernel
theorem dX7_bestPlan_19 : decode cX7_bestPlan 19 = .ok (.aload_n 0, 1) := by decide +kernel
theorem dX7_bestPlan_20 : decode cX7_bestPlan 20 = .ok (.getfield 7, 3) := by decide +kernel
theorem dX7_bestPlan_23 : decode cX7_bestPlan 23 = .ok (.bipush 7, 2) := by decide +kernel
theorem dX7_bestPlan_25 : decode cX7_bestPlan 25 = .ok (.iaload, 1) := by decide +kernel
theorem dX7_bestPlan_26 : decode cX7_bestPlan 26 = .ok (.istore_n 2, 1) := by decide +kernel
theorem dX7_bestPlan_27 : decode cX7_bestPlan 27 = .ok (.iconst 0, 1) := by decide +kernel
theorem dX7_bestPlan_28 : decode cX7_bestPlan 28 = .ok (.istore_n 3, 1) := by decide +kernel
theorem dX7_bestPlan_29 : decode cX7_bestPlan 29 = .ok (.iconst 0, 1) := by decide +kernel
theorem dX7_bestPlan_30 : decode cX7_bestPlan 30 = .ok (.istore 4, 2) := by decide +kernel
theorem dX7_bestPlan_32 : decode cX7_bestPlan 32 = .ok (.iload 4, 2) := by decide +kernel
theorem dX7_bestPlan_34 : decode cX7_bestPlan 34 = .ok (.iload_n 1, 1) := by decide +kernel
theorem dX7_bestPlan_35 : decode cX7_bestPlan 35 = .ok (.if_icmp .gt 22, 3) := by decide +kernel
theorem dX7_bestPlan_38 : decode cX7_bestPlan 38 = .ok (.aload_n 0, 1) := by decide +kernel
theorem dX7_bestPlan_39 : decode cX7_bestPlan 39 = .ok (.iload 4, 2) := by decide +kernel
theorem dX7_bestPlan_41 : decode cX7_bestPlan 41 = .ok (.iload_n 2, 1) := by decide +kernel
theorem dX7_bestPlan_42 : decode cX7_bestPlan 42 = .ok (.invokevirtual 127, 3) := by decide +kernel
theorem dX7_bestPlan_45 : decode cX7_bestPlan 45 = .ok (.istore_n 3, 1) := by decide +kernel
theorem dX7_bestPlan_46 : decode cX7_bestPlan 46 = .ok (.aload_n 0, 1) := by decide +kernel
theorem dX7_bestPlan_47 : decode cX7_bestPlan 47 = .ok (.getfield 60, 3) := by decide +kernel
theorem dX7_bestPlan_50 : decode cX7_bestPlan 50 = .ok (.istore_n 2, 1) := by decide +kernel
theorem dX7_bestPlan_51 : decode cX7_bestPlan 51 = .ok (.iinc 4 1, 3) := by decide +kernel
theorem dX7_bestPlan_54 : decode cX7_bestPlan 54 = .ok (.goto (-22), 3) := by decide +kernel
theorem dX7_bestPlan_57 : decode cX7_bestPlan 57 = .ok (.iload_n 3, 1) := by decide +kernel
theorem dX7_bestPlan_58 : decode cX7_bestPlan 58 = .ok (.bipush 100, 2) := by decide +kernel
theorem dX7_bestPlan_60 : decode cX7_bestPlan 60 = .ok (.iadd, 1) := by decide +kernel
theorem dX7_bestPlan_61 : decode cX7_bestPlan 61 = .ok (.ireturn, 1) := by decide +kernel
set_option maxRecDepth 20000 in
theorem ggX7_worth_X7_in : GoodIn wsX7_worth wsX7_in := goodIn_r _ [8] (by decide +kernel) (by decide +kernel)
set_option maxRecDepth 20000 in
theorem gX7_worth_X7_in : GoodIn wsX7_worth (va_wsS RX7 35 yX7_in wsX7_in) := goodIn_app (goodIn_of _ (by decide +kernel)) ggX7_worth_X7_in
set_option maxRecDepth 20000 in
theorem ggX7_worth_X7_plans : GoodIn wsX7_worth wsX7_plans := goodIn_r _ [12, 2, 1, 3, 13, 14, 15, 7, 16, 17, 18, 19, 20, 21, 22, 23, 24, 25, 26, 27, 28, 29, 30, 31, 32, 33, 34, 35, 36, 37, 38, 39, 40, 41, 42, 43, 44, 45, 46, 47, 48, 49, 50, 51, 52, 53, 54, 55, 56] (by decide +kernel) (by decide +kernel)
set_option maxRecDepth 20000 in
theorem gX7_worth_X7_plans : GoodIn wsX7_worth (wsV RX7 95 RX7 yX7_plans wsX7_plans) := goodIn_app (goodIn_of _ (by decide +kernel)) ggX7_worth_X7_plans
theorem dX7_worth_0 : decode cX7_worth 0 = .ok (.iload_n 1, 1) := by decide +kernel
theorem dX7_worth_1 : decode cX7_worth 1 = .ok (.sipush (-200), 3) := by decide +kernel
theorem dX7_worth_4 : decode cX7_worth 4 = .ok (.sipush 200, 3) := by decide +kernel
theorem dX7_worth_7 : decode cX7_worth 7 = .ok (.invokestatic 35, 3) := by decide +kernel
theorem dX7_worth_10 : decode cX7_worth 10 = .ok (.ifCond .eq 22, 3) := by decide +kernel
theorem dX7_worth_13 : decode cX7_worth 13 = .ok (.aload_n 0, 1) := by decide +kernel
theorem dX7_worth_14 : decode cX7_worth 14 = .ok (.getfield 7, 3) := by decide +kernel
theorem dX7_worth_17 : decode cX7_worth 17 = .ok (.bipush 7, 2) := by decide +kernel
theorem dX7_worth_19 : decode cX7_worth 19 = .ok (.iaload, 1) := by decide +kernel
theorem dX7_worth_20 : decode cX7_worth 20 = .ok (.iload_n 1, 1) := by decide +kernel
theorem dX7_worth_21 : decode cX7_worth 21 = .ok (.iadd, 1) := by decide +kernel
theorem dX7_worth_22 : decode cX7_worth 22 = .ok (.iconst 0, 1) := by decide +kernel
theorem dX7_worth_23 : decode cX7_worth 23 = .ok (.sipush 200, 3) := by decide +kernel
theorem dX7_worth_26 : decode cX7_worth 26 = .ok (.invokestatic 35, 3) := by decide +kernel
theorem dX7_worth_29 : decode cX7_worth 29 = .ok (.ifCond .ne 6, 3) := by decide +kernel
theorem dX7_worth_32 : decode cX7_worth 32 = .ok (.bipush (-2), 2) := by decide +kernel
theorem dX7_worth_34 : decode cX7_worth 34 = .ok (.ireturn, 1) := by decide +kernel
theorem dX7_worth_35 : decode cX7_worth 35 = .ok (.aload_n 0, 1) := by decide +kernel
theorem dX7_worth_36 : decode cX7_worth 36 = .ok (.invokevirtual 95, 3) := by decide +kernel
theorem dX7_worth_39 : decode cX7_worth 39 = .ok (.aload_n 0, 1) := by decide +kernel
theorem dX7_worth_40 : decode cX7_worth 40 = .ok (.getfield 29, 3) := by decide +kernel
theorem dX7_worth_43 : decode cX7_worth 43 = .ok (.aload_n 0, 1) := by decide +kernel
theorem dX7_worth_44 : decode cX7_worth 44 = .ok (.getfield 7, 3) := by decide +kernel
theorem dX7_worth_47 : decode cX7_worth 47 = .ok (.bipush 7, 2) := by decide +kernel
theorem dX7_worth_49 : decode cX7_worth 49 = .ok (.iaload, 1) := by decide +kernel
theorem dX7_worth_50 : decode cX7_worth 50 = .ok (.iaload, 1) := by decide +kernel
theorem dX7_worth_51 : decode cX7_worth 51 = .ok (.istore_n 2, 1) := by decide +kernel
theorem dX7_worth_52 : decode cX7_worth 52 = .ok (.aload_n 0, 1) := by decide +kernel
theorem dX7_worth_53 : decode cX7_worth 53 = .ok (.getfield 29, 3) := by decide +kernel
theorem dX7_worth_56 : decode cX7_worth 56 = .ok (.aload_n 0, 1) := by decide +kernel
theorem dX7_worth_57 : decode cX7_worth 57 = .ok (.getfield 7, 3) := by decide +kernel
theorem dX7_worth_60 : decode cX7_worth 60 = .ok (.bipush 7, 2) := by decide +kernel
theorem dX7_worth_62 : decode cX7_worth 62 = .ok (.iaload, 1) := by decide +kernel
theorem dX7_worth_63 : decode cX7_worth 63 = .ok (.iload_n 1, 1) := by decide +kernel
theorem dX7_worth_64 : decode cX7_worth 64 = .ok (.iadd, 1) := by decide +kernel
theorem dX7_worth_65 : decode cX7_worth 65 = .ok (.iaload, 1) := by decide +kernel
theorem dX7_worth_66 : decode cX7_worth 66 = .ok (.istore_n 3, 1) := by decide +kernel
theorem dX7_worth_67 : decode cX7_worth 67 = .ok (.iload_n 2, 1) := by decide +kernel
theorem dX7_worth_68 : decode cX7_worth 68 = .ok (.ldc 87, 2) := by decide +kernel
theorem dX7_worth_70 : decode cX7_worth 70 = .ok (.if_icmp .eq 9, 3) := by decide +kernel
theorem dX7_worth_73 : decode cX7_worth 73 = .ok (.iload_n 3, 1) := by decide +kernel
theorem dX7_worth_74 : decode cX7_worth 74 = .ok (.ldc 87, 2) := by decide +kernel
theorem dX7_worth_76 : decode cX7_worth 76 = .ok (.if_icmp .ne 8, 3) := by decide +kernel
theorem dX7_worth_79 : decode cX7_worth 79 = .ok (.bipush (-6), 2) := by decide +kernel
theorem dX7_worth_81 : decode cX7_worth 81 = .ok (.goto 9, 3) := by decide +kernel
theorem dX7_worth_84 : decode cX7_worth 84 = .ok (.iload_n 3, 1) := by decide +kernel
theorem dX7_worth_85 : decode cX7_worth 85 = .ok (.iload_n 2, 1) := by decide +kernel
theorem dX7_worth_86 : decode cX7_worth 86 = .ok (.isub, 1) := by decide +kernel
theorem dX7_worth_87 : decode cX7_worth 87 = .ok (.ldc 148, 2) := by decide +kernel
theorem dX7_worth_89 : decode cX7_worth 89 = .ok (.iadd, 1) := by decide +kernel
theorem dX7_worth_90 : decode cX7_worth 90 = .ok (.ireturn, 1) := by decide +kernel
set_option maxRecDepth 20000 in
theorem ggX7_highest_X7_goes : GoodIn wsX7_highest wsX7_goes := goodIn_r _ [8, 9, 2, 10, 3, 11, 12, 13, 14, 15, 16, 17, 18, 19, 20, 21, 22, 23, 24, 25, 26, 27, 28, 29, 30, 31] (by decide +kernel) (by decide +kernel)
set_option maxRecDepth 20000 in
theorem gX7_highest_X7_goes : GoodIn wsX7_highest (wsV RX7 83 RX7 yX7_goes wsX7_goes) := goodIn_app (goodIn_of _ (by decide +kernel)) ggX7_highest_X7_goes
theorem dX7_highest_0 : decode cX7_highest 0 = .ok (.iconst 0, 1) := by decide +kernel
theorem dX7_highest_1 : decode cX7_highest 1 = .ok (.istore_n 1, 1) := by decide +kernel
theorem dX7_highest_2 : decode cX7_highest 2 = .ok (.iload_n 1, 1) := by decide +kernel
theorem dX7_highest_3 : decode cX7_highest 3 = .ok (.sipush 201, 3) := by decide +kernel
theorem dX7_highest_6 : decode cX7_highest 6 = .ok (.if_icmp .ge 31, 3) := by decide +kernel
theorem dX7_highest_9 : decode cX7_highest 9 = .ok (.aload_n 0, 1) := by decide +kernel
theorem dX7_highest_10 : decode cX7_highest 10 = .ok (.getfield 32, 3) := by decide +kernel
theorem dX7_highest_13 : decode cX7_highest 13 = .ok (.iload_n 1, 1) := by decide +kernel
theorem dX7_highest_14 : decode cX7_highest 14 = .ok (.iload_n 1, 1) := by decide +kernel
theorem dX7_highest_15 : decode cX7_highest 15 = .ok (.aload_n 0, 1) := by decide +kernel
theorem dX7_highest_16 : decode cX7_highest 16 = .ok (.getfield 7, 3) := by decide +kernel
theorem dX7_highest_19 : decode cX7_highest 19 = .ok (.bipush 7, 2) := by decide +kernel
theorem dX7_highest_21 : decode cX7_highest 21 = .ok (.iaload, 1) := by decide +kernel
theorem dX7_highest_22 : decode cX7_highest 22 = .ok (.if_icmp .ne 7, 3) := by decide +kernel
theorem dX7_highest_25 : decode cX7_highest 25 = .ok (.iconst 1, 1) := by decide +kernel
theorem dX7_highest_26 : decode cX7_highest 26 = .ok (.goto 4, 3) := by decide +kernel
theorem dX7_highest_29 : decode cX7_highest 29 = .ok (.iconst 0, 1) := by decide +kernel
theorem dX7_highest_30 : decode cX7_highest 30 = .ok (.bastore, 1) := by decide +kernel
theorem dX7_highest_31 : decode cX7_highest 31 = .ok (.iinc 1 1, 3) := by decide +kernel
theorem dX7_highest_34 : decode cX7_highest 34 = .ok (.goto (-32), 3) := by decide +kernel
theorem dX7_highest_37 : decode cX7_highest 37 = .ok (.iconst 0, 1) := by decide +kernel
theorem dX7_highest_38 : decode cX7_highest 38 = .ok (.istore_n 1, 1) := by decide +kernel
theorem dX7_highest_39 : decode cX7_highest 39 = .ok (.iload_n 1, 1) := by decide +kernel
theorem dX7_highest_40 : decode cX7_highest 40 = .ok (.bipush 24, 2) := by decide +kernel
theorem dX7_highest_42 : decode cX7_highest 42 = .ok (.if_icmp .ge 135, 3) := by decide +kernel
theorem dX7_highest_45 : decode cX7_highest 45 = .ok (.iconst 0, 1) := by decide +kernel
theorem dX7_highest_46 : decode cX7_highest 46 = .ok (.istore_n 2, 1) := by decide +kernel
theorem dX7_highest_47 : decode cX7_highest 47 = .ok (.iload_n 2, 1) := by decide +kernel
theorem dX7_highest_48 : decode cX7_highest 48 = .ok (.sipush 201, 3) := by decide +kernel
theorem dX7_highest_51 : decode cX7_highest 51 = .ok (.if_icmp .ge 20, 3) := by decide +kernel
theorem dX7_highest_54 : decode cX7_highest 54 = .ok (.aload_n 0, 1) := by decide +kernel
theorem dX7_highest_55 : decode cX7_highest 55 = .ok (.getfield 32, 3) := by decide +kernel
theorem dX7_highest_58 : decode cX7_highest 58 = .ok (.sipush 201, 3) := by decide +kernel
theorem dX7_highest_61 : decode cX7_highest 61 = .ok (.iload_n 2, 1) := by decide +kernel
theorem dX7_highest_62 : decode cX7_highest 62 = .ok (.iadd, 1) := by decide +kernel
theorem dX7_highest_63 : decode cX7_highest 63 = .ok (.iconst 0, 1) := by decide +kernel
theorem dX7_highest_64 : decode cX7_highest 64 = .ok (.bastore, 1) := by decide +kernel
theorem dX7_highest_65 : decode cX7_highest 65 = .ok (.iinc 2 1, 3) := by decide +kernel
theorem dX7_highest_68 : decode cX7_highest 68 = .ok (.goto (-21), 3) := by decide +kernel
theorem dX7_highest_71 : decode cX7_highest 71 = .ok (.iconst 0, 1) := by decide +kernel
theorem dX7_highest_72 : decode cX7_highest 72 = .ok (.istore_n 2, 1) := by decide +kernel
