theorem dX7_save_37 : decode cX7_save 37 = .ok (.invokevirtual 47, 3) := by decide +kernel
theorem dX7_save_40 : decode cX7_save 40 = .ok (.ireturn, 1) := by decide +kernel
set_option maxRecDepth 20000 in
theorem ggX7_restore_X7_in : GoodIn wsX7_restore wsX7_in := goodIn_r _ [7] (by decide +kernel) (by decide +kernel)
set_option maxRecDepth 20000 in
theorem gX7_restore_X7_in : GoodIn wsX7_restore (va_wsS RX7 35 yX7_in wsX7_in) := goodIn_app (goodIn_of _ (by decide +kernel)) ggX7_restore_X7_in
set_option maxRecDepth 20000 in
theorem ggX7_restore_X7_records : GoodIn wsX7_restore wsX7_records := goodIn_r _ [11, 12, 13, 3, 14, 15, 6, 16, 52, 53, 54, 55, 56, 57, 58, 59, 60, 61, 62, 63, 64, 65, 66, 67, 68, 69] (by decide +kernel) (by decide +kernel)
set_option maxRecDepth 20000 in
theorem gX7_restore_X7_records : GoodIn wsX7_restore (wsV RX7 51 RX7 yX7_records wsX7_records) := goodIn_app (goodIn_of _ (by decide +kernel)) ggX7_restore_X7_records
set_option maxRecDepth 20000 in
theorem ggX7_restore_X7_lays : GoodIn wsX7_restore wsX7_lays := goodIn_r _ [16] (by decide +kernel) (by decide +kernel)
set_option maxRecDepth 20000 in
theorem gX7_restore_X7_lays : GoodIn wsX7_restore (va_wsS RX7 43 yX7_lays wsX7_lays) := goodIn_app (goodIn_of _ (by decide +kernel)) ggX7_restore_X7_lays
set_option maxRecDepth 20000 in
theorem ggX7_restore_X7_daily : GoodIn wsX7_restore wsX7_daily := goodIn_r _ [20, 21, 3, 22, 23, 24, 25, 6, 26, 27, 28, 29, 30, 31, 32, 33, 34, 35, 36, 37, 38, 39, 40, 41, 42, 43, 44, 45, 46, 47, 48, 49, 50, 51, 52, 53, 54, 55, 56, 57, 58, 59, 60, 61, 62, 63, 64, 65, 66, 67, 68, 69] (by decide +kernel) (by decide +kernel)
set_option maxRecDepth 20000 in
theorem gX7_restore_X7_daily : GoodIn wsX7_restore (wsV RX7 47 RX7 yX7_daily wsX7_daily) := goodIn_app (goodIn_of _ (by decide +kernel)) ggX7_restore_X7_daily
theorem dX7_restore_0 : decode cX7_restore 0 = .ok (.iload_n 1, 1) := by decide +kernel
theorem dX7_restore_1 : decode cX7_restore 1 = .ok (.iconst 0, 1) := by decide +kernel
theorem dX7_restore_2 : decode cX7_restore 2 = .ok (.iconst 1, 1) := by decide +kernel
theorem dX7_restore_3 : decode cX7_restore 3 = .ok (.invokestatic 35, 3) := by decide +kernel
theorem dX7_restore_6 : decode cX7_restore 6 = .ok (.ifCond .ne 6, 3) := by decide +kernel
theorem dX7_restore_9 : decode cX7_restore 9 = .ok (.bipush (-2), 2) := by decide +kernel
theorem dX7_restore_11 : decode cX7_restore 11 = .ok (.ireturn, 1) := by decide +kernel
theorem dX7_restore_12 : decode cX7_restore 12 = .ok (.aload_n 0, 1) := by decide +kernel
theorem dX7_restore_13 : decode cX7_restore 13 = .ok (.getfield 19, 3) := by decide +kernel
theorem dX7_restore_16 : decode cX7_restore 16 = .ok (.iload_n 1, 1) := by decide +kernel
theorem dX7_restore_17 : decode cX7_restore 17 = .ok (.baload, 1) := by decide +kernel
theorem dX7_restore_18 : decode cX7_restore 18 = .ok (.ifCond .ne 6, 3) := by decide +kernel
theorem dX7_restore_21 : decode cX7_restore 21 = .ok (.bipush (-5), 2) := by decide +kernel
theorem dX7_restore_23 : decode cX7_restore 23 = .ok (.ireturn, 1) := by decide +kernel
theorem dX7_restore_24 : decode cX7_restore 24 = .ok (.aload_n 0, 1) := by decide +kernel
theorem dX7_restore_25 : decode cX7_restore 25 = .ok (.invokevirtual 51, 3) := by decide +kernel
theorem dX7_restore_28 : decode cX7_restore 28 = .ok (.aload_n 0, 1) := by decide +kernel
theorem dX7_restore_29 : decode cX7_restore 29 = .ok (.getfield 16, 3) := by decide +kernel
theorem dX7_restore_32 : decode cX7_restore 32 = .ok (.bipush 115, 2) := by decide +kernel
theorem dX7_restore_34 : decode cX7_restore 34 = .ok (.iload_n 1, 1) := by decide +kernel
theorem dX7_restore_35 : decode cX7_restore 35 = .ok (.imul, 1) := by decide +kernel
theorem dX7_restore_36 : decode cX7_restore 36 = .ok (.aload_n 0, 1) := by decide +kernel
theorem dX7_restore_37 : decode cX7_restore 37 = .ok (.getfield 7, 3) := by decide +kernel
theorem dX7_restore_40 : decode cX7_restore 40 = .ok (.iconst 0, 1) := by decide +kernel
theorem dX7_restore_41 : decode cX7_restore 41 = .ok (.invokestatic 43, 3) := by decide +kernel
theorem dX7_restore_44 : decode cX7_restore 44 = .ok (.aload_n 0, 1) := by decide +kernel
theorem dX7_restore_45 : decode cX7_restore 45 = .ok (.iconst 0, 1) := by decide +kernel
theorem dX7_restore_46 : decode cX7_restore 46 = .ok (.invokevirtual 47, 3) := by decide +kernel
theorem dX7_restore_49 : decode cX7_restore 49 = .ok (.ireturn, 1) := by decide +kernel
theorem dX7_goes_0 : decode cX7_goes 0 = .ok (.aload_n 0, 1) := by decide +kernel
theorem dX7_goes_1 : decode cX7_goes 1 = .ok (.iload_n 3, 1) := by decide +kernel
theorem dX7_goes_2 : decode cX7_goes 2 = .ok (.ifCond .ge 8, 3) := by decide +kernel
theorem dX7_goes_5 : decode cX7_goes 5 = .ok (.iload_n 3, 1) := by decide +kernel
theorem dX7_goes_6 : decode cX7_goes 6 = .ok (.ineg, 1) := by decide +kernel
theorem dX7_goes_7 : decode cX7_goes 7 = .ok (.goto 4, 3) := by decide +kernel
theorem dX7_goes_10 : decode cX7_goes 10 = .ok (.iconst 0, 1) := by decide +kernel
theorem dX7_goes_11 : decode cX7_goes 11 = .ok (.putfield 54, 3) := by decide +kernel
theorem dX7_goes_14 : decode cX7_goes 14 = .ok (.aload_n 0, 1) := by decide +kernel
theorem dX7_goes_15 : decode cX7_goes 15 = .ok (.aload_n 0, 1) := by decide +kernel
theorem dX7_goes_16 : decode cX7_goes 16 = .ok (.getfield 54, 3) := by decide +kernel
theorem dX7_goes_19 : decode cX7_goes 19 = .ok (.aload_n 0, 1) := by decide +kernel
theorem dX7_goes_20 : decode cX7_goes 20 = .ok (.getfield 7, 3) := by decide +kernel
theorem dX7_goes_23 : decode cX7_goes 23 = .ok (.iconst 2, 1) := by decide +kernel
theorem dX7_goes_24 : decode cX7_goes 24 = .ok (.iaload, 1) := by decide +kernel
theorem dX7_goes_25 : decode cX7_goes 25 = .ok (.imul, 1) := by decide +kernel
theorem dX7_goes_26 : decode cX7_goes 26 = .ok (.bipush 99, 2) := by decide +kernel
theorem dX7_goes_28 : decode cX7_goes 28 = .ok (.iadd, 1) := by decide +kernel
theorem dX7_goes_29 : decode cX7_goes 29 = .ok (.bipush 100, 2) := by decide +kernel
theorem dX7_goes_31 : decode cX7_goes 31 = .ok (.idiv, 1) := by decide +kernel
theorem dX7_goes_32 : decode cX7_goes 32 = .ok (.putfield 57, 3) := by decide +kernel
theorem dX7_goes_35 : decode cX7_goes 35 = .ok (.aload_n 0, 1) := by decide +kernel
theorem dX7_goes_36 : decode cX7_goes 36 = .ok (.iload_n 2, 1) := by decide +kernel
theorem dX7_goes_37 : decode cX7_goes 37 = .ok (.aload_n 0, 1) := by decide +kernel
theorem dX7_goes_38 : decode cX7_goes 38 = .ok (.getfield 54, 3) := by decide +kernel
theorem dX7_goes_41 : decode cX7_goes 41 = .ok (.iadd, 1) := by decide +kernel
theorem dX7_goes_42 : decode cX7_goes 42 = .ok (.aload_n 0, 1) := by decide +kernel
theorem dX7_goes_43 : decode cX7_goes 43 = .ok (.getfield 57, 3) := by decide +kernel
theorem dX7_goes_46 : decode cX7_goes 46 = .ok (.isub, 1) := by decide +kernel
theorem dX7_goes_47 : decode cX7_goes 47 = .ok (.aload_n 0, 1) := by decide +kernel
theorem dX7_goes_48 : decode cX7_goes 48 = .ok (.getfield 7, 3) := by decide +kernel
theorem dX7_goes_51 : decode cX7_goes 51 = .ok (.bipush 34, 2) := by decide +kernel
theorem dX7_goes_53 : decode cX7_goes 53 = .ok (.iload_n 1, 1) := by decide +kernel
theorem dX7_goes_54 : decode cX7_goes 54 = .ok (.iadd, 1) := by decide +kernel
theorem dX7_goes_55 : decode cX7_goes 55 = .ok (.iaload, 1) := by decide +kernel
theorem dX7_goes_56 : decode cX7_goes 56 = .ok (.iadd, 1) := by decide +kernel
theorem dX7_goes_57 : decode cX7_goes 57 = .ok (.putfield 60, 3) := by decide +kernel
theorem dX7_goes_60 : decode cX7_goes 60 = .ok (.aload_n 0, 1) := by decide +kernel
theorem dX7_goes_61 : decode cX7_goes 61 = .ok (.iload_n 3, 1) := by decide +kernel
theorem dX7_goes_62 : decode cX7_goes 62 = .ok (.aload_n 0, 1) := by decide +kernel
theorem dX7_goes_63 : decode cX7_goes 63 = .ok (.getfield 7, 3) := by decide +kernel
theorem dX7_goes_66 : decode cX7_goes 66 = .ok (.iconst 4, 1) := by decide +kernel
theorem dX7_goes_67 : decode cX7_goes 67 = .ok (.iaload, 1) := by decide +kernel
theorem dX7_goes_68 : decode cX7_goes 68 = .ok (.if_icmp .le 7, 3) := by decide +kernel
theorem dX7_goes_71 : decode cX7_goes 71 = .ok (.iload_n 3, 1) := by decide +kernel
theorem dX7_goes_72 : decode cX7_goes 72 = .ok (.goto 9, 3) := by decide +kernel
theorem dX7_goes_75 : decode cX7_goes 75 = .ok (.aload_n 0, 1) := by decide +kernel
theorem dX7_goes_76 : decode cX7_goes 76 = .ok (.getfield 7, 3) := by decide +kernel
theorem dX7_goes_79 : decode cX7_goes 79 = .ok (.iconst 4, 1) := by decide +kernel
theorem dX7_goes_80 : decode cX7_goes 80 = .ok (.iaload, 1) := by decide +kernel
theorem dX7_goes_81 : decode cX7_goes 81 = .ok (.putfield 63, 3) := by decide +kernel
theorem dX7_goes_84 : decode cX7_goes 84 = .ok (.aload_n 0, 1) := by decide +kernel
theorem dX7_goes_85 : decode cX7_goes 85 = .ok (.getfield 60, 3) := by decide +kernel
theorem dX7_goes_88 : decode cX7_goes 88 = .ok (.aload_n 0, 1) := by decide +kernel
theorem dX7_goes_89 : decode cX7_goes 89 = .ok (.getfield 7, 3) := by decide +kernel
theorem dX7_goes_92 : decode cX7_goes 92 = .ok (.iconst 5, 1) := by decide +kernel
theorem dX7_goes_93 : decode cX7_goes 93 = .ok (.iaload, 1) := by decide +kernel
theorem dX7_goes_94 : decode cX7_goes 94 = .ok (.if_icmp .le 17, 3) := by decide +kernel
theorem dX7_goes_97 : decode cX7_goes 97 = .ok (.aload_n 0, 1) := by decide +kernel
theorem dX7_goes_98 : decode cX7_goes 98 = .ok (.getfield 60, 3) := by decide +kernel
theorem dX7_goes_101 : decode cX7_goes 101 = .ok (.aload_n 0, 1) := by decide +kernel
theorem dX7_goes_102 : decode cX7_goes 102 = .ok (.getfield 7, 3) := by decide +kernel
theorem dX7_goes_105 : decode cX7_goes 105 = .ok (.iconst 5, 1) := by decide +kernel
theorem dX7_goes_106 : decode cX7_goes 106 = .ok (.iaload, 1) := by decide +kernel
theorem dX7_goes_107 : decode cX7_goes 107 = .ok (.isub, 1) := by decide +kernel
theorem dX7_goes_108 : decode cX7_goes 108 = .ok (.goto 4, 3) := by decide +kernel
theorem dX7_goes_111 : decode cX7_goes 111 = .ok (.iconst 0, 1) := by decide +kernel
theorem dX7_goes_112 : decode cX7_goes 112 = .ok (.istore 4, 2) := by decide +kernel
theorem dX7_goes_114 : decode cX7_goes 114 = .ok (.aload_n 0, 1) := by decide +kernel
theorem dX7_goes_115 : decode cX7_goes 115 = .ok (.aload_n 0, 1) := by decide +kernel
theorem dX7_goes_116 : decode cX7_goes 116 = .ok (.getfield 63, 3) := by decide +kernel
theorem dX7_goes_119 : decode cX7_goes 119 = .ok (.iload 4, 2) := by decide +kernel
theorem dX7_goes_121 : decode cX7_goes 121 = .ok (.if_icmp .ge 10, 3) := by decide +kernel
theorem dX7_goes_124 : decode cX7_goes 124 = .ok (.aload_n 0, 1) := by decide +kernel
theorem dX7_goes_125 : decode cX7_goes 125 = .ok (.getfield 63, 3) := by decide +kernel
theorem dX7_goes_128 : decode cX7_goes 128 = .ok (.goto 5, 3) := by decide +kernel
theorem dX7_goes_131 : decode cX7_goes 131 = .ok (.iload 4, 2) := by decide +kernel
theorem dX7_goes_133 : decode cX7_goes 133 = .ok (.putfield 66, 3) := by decide +kernel
theorem dX7_goes_136 : decode cX7_goes 136 = .ok (.aload_n 0, 1) := by decide +kernel
theorem dX7_goes_137 : decode cX7_goes 137 = .ok (.dup, 1) := by decide +kernel
theorem dX7_goes_138 : decode cX7_goes 138 = .ok (.getfield 60, 3) := by decide +kernel
theorem dX7_goes_141 : decode cX7_goes 141 = .ok (.aload_n 0, 1) := by decide +kernel
theorem dX7_goes_142 : decode cX7_goes 142 = .ok (.getfield 66, 3) := by decide +kernel
theorem dX7_goes_145 : decode cX7_goes 145 = .ok (.isub, 1) := by decide +kernel
theorem dX7_goes_146 : decode cX7_goes 146 = .ok (.putfield 60, 3) := by decide +kernel
theorem dX7_goes_149 : decode cX7_goes 149 = .ok (.aload_n 0, 1) := by decide +kernel
theorem dX7_goes_150 : decode cX7_goes 150 = .ok (.aload_n 0, 1) := by decide +kernel
theorem dX7_goes_151 : decode cX7_goes 151 = .ok (.getfield 60, 3) := by decide +kernel
theorem dX7_goes_154 : decode cX7_goes 154 = .ok (.aload_n 0, 1) := by decide +kernel
theorem dX7_goes_155 : decode cX7_goes 155 = .ok (.getfield 7, 3) := by decide +kernel
theorem dX7_goes_158 : decode cX7_goes 158 = .ok (.bipush 6, 2) := by decide +kernel
theorem dX7_goes_160 : decode cX7_goes 160 = .ok (.iaload, 1) := by decide +kernel
theorem dX7_goes_161 : decode cX7_goes 161 = .ok (.if_icmp .le 18, 3) := by decide +kernel
theorem dX7_goes_164 : decode cX7_goes 164 = .ok (.aload_n 0, 1) := by decide +kernel
theorem dX7_goes_165 : decode cX7_goes 165 = .ok (.getfield 60, 3) := by decide +kernel
theorem dX7_goes_168 : decode cX7_goes 168 = .ok (.aload_n 0, 1) := by decide +kernel
theorem dX7_goes_169 : decode cX7_goes 169 = .ok (.getfield 7, 3) := by decide +kernel
theorem dX7_goes_172 : decode cX7_goes 172 = .ok (.bipush 6, 2) := by decide +kernel
theorem dX7_goes_174 : decode cX7_goes 174 = .ok (.iaload, 1) := by decide +kernel
theorem dX7_goes_175 : decode cX7_goes 175 = .ok (.isub, 1) := by decide +kernel
theorem dX7_goes_176 : decode cX7_goes 176 = .ok (.goto 4, 3) := by decide +kernel
theorem dX7_goes_179 : decode cX7_goes 179 = .ok (.iconst 0, 1) := by decide +kernel
theorem dX7_goes_180 : decode cX7_goes 180 = .ok (.putfield 69, 3) := by decide +kernel
theorem dX7_goes_183 : decode cX7_goes 183 = .ok (.aload_n 0, 1) := by decide +kernel
theorem dX7_goes_184 : decode cX7_goes 184 = .ok (.dup, 1) := by decide +kernel
theorem dX7_goes_185 : decode cX7_goes 185 = .ok (.getfield 60, 3) := by decide +kernel
theorem dX7_goes_188 : decode cX7_goes 188 = .ok (.aload_n 0, 1) := by decide +kernel
theorem dX7_goes_189 : decode cX7_goes 189 = .ok (.getfield 69, 3) := by decide +kernel
theorem dX7_goes_192 : decode cX7_goes 192 = .ok (.isub, 1) := by decide +kernel
theorem dX7_goes_193 : decode cX7_goes 193 = .ok (.putfield 60, 3) := by decide +kernel
theorem dX7_goes_196 : decode cX7_goes 196 = .ok (.return_, 1) := by decide +kernel
set_option maxRecDepth 20000 in
theorem ggX7_isMissed_X7_of : GoodIn wsX7_isMissed wsX7_of := goodIn_r _ [6, 7, 8, 9, 10, 11, 12, 13, 14, 15, 16, 17, 18, 19, 20, 21, 22, 23, 24, 25] (by decide +kernel) (by decide +kernel)
set_option maxRecDepth 20000 in
theorem gX7_isMissed_X7_of : GoodIn wsX7_isMissed (wsV RX7 72 RX7 yX7_of wsX7_of) := goodIn_app (goodIn_of _ (by decide +kernel)) ggX7_isMissed_X7_of
theorem dX7_isMissed_0 : decode cX7_isMissed 0 = .ok (.aload_n 0, 1) := by decide +kernel
theorem dX7_isMissed_1 : decode cX7_isMissed 1 = .ok (.iload_n 1, 1) := by decide +kernel
theorem dX7_isMissed_2 : decode cX7_isMissed 2 = .ok (.iconst 0, 1) := by decide +kernel
theorem dX7_isMissed_3 : decode cX7_isMissed 3 = .ok (.invokevirtual 72, 3) := by decide +kernel
theorem dX7_isMissed_6 : decode cX7_isMissed 6 = .ok (.iload_n 2, 1) := by decide +kernel
theorem dX7_isMissed_7 : decode cX7_isMissed 7 = .ok (.if_icmp .ne 20, 3) := by decide +kernel
theorem dX7_isMissed_10 : decode cX7_isMissed 10 = .ok (.aload_n 0, 1) := by decide +kernel
theorem dX7_isMissed_11 : decode cX7_isMissed 11 = .ok (.getfield 66, 3) := by decide +kernel
theorem dX7_isMissed_14 : decode cX7_isMissed 14 = .ok (.aload_n 0, 1) := by decide +kernel
theorem dX7_isMissed_15 : decode cX7_isMissed 15 = .ok (.iload_n 1, 1) := by decide +kernel
theorem dX7_isMissed_16 : decode cX7_isMissed 16 = .ok (.iconst 1, 1) := by decide +kernel
theorem dX7_isMissed_17 : decode cX7_isMissed 17 = .ok (.invokevirtual 72, 3) := by decide +kernel
theorem dX7_isMissed_20 : decode cX7_isMissed 20 = .ok (.if_icmp .ge 7, 3) := by decide +kernel
theorem dX7_isMissed_23 : decode cX7_isMissed 23 = .ok (.iconst 1, 1) := by decide +kernel
theorem dX7_isMissed_24 : decode cX7_isMissed 24 = .ok (.goto 4, 3) := by decide +kernel
theorem dX7_isMissed_27 : decode cX7_isMissed 27 = .ok (.iconst 0, 1) := by decide +kernel
theorem dX7_isMissed_28 : decode cX7_isMissed 28 = .ok (.ireturn, 1) := by decide +kernel
set_option maxRecDepth 20000 in
theorem ggX7_money_X7_of : GoodIn wsX7_money wsX7_of := goodIn_r _ [8, 1, 13, 14, 15, 16, 17, 18, 19, 20, 21, 22, 23, 24, 25, 26, 27, 28, 29, 30] (by decide +kernel) (by decide +kernel)
set_option maxRecDepth 20000 in
theorem gX7_money_X7_of : GoodIn wsX7_money (wsV RX7 72 RX7 yX7_of wsX7_of) := goodIn_app (goodIn_of _ (by decide +kernel)) ggX7_money_X7_of
set_option maxRecDepth 20000 in
theorem ggX7_money_X7_isMissed : GoodIn wsX7_money wsX7_isMissed := goodIn_r _ [12, 2, 4, 5, 6, 7, 8, 1, 13, 14, 15, 16, 17, 18, 19, 20, 21, 22, 23, 24, 25, 26, 27, 28, 29, 30] (by decide +kernel) (by decide +kernel)
set_option maxRecDepth 20000 in
theorem gX7_money_X7_isMissed : GoodIn wsX7_money (wsV RX7 76 RX7 yX7_isMissed wsX7_isMissed) := goodIn_app (goodIn_of _ (by decide +kernel)) ggX7_money_X7_isMissed
theorem dX7_money_0 : decode cX7_money 0 = .ok (.aload_n 0, 1) := by decide +kernel
theorem dX7_money_1 : decode cX7_money 1 = .ok (.getfield 7, 3) := by decide +kernel
theorem dX7_money_4 : decode cX7_money 4 = .ok (.bipush 10, 2) := by decide +kernel
theorem dX7_money_6 : decode cX7_money 6 = .ok (.iload_n 1, 1) := by decide +kernel
theorem dX7_money_7 : decode cX7_money 7 = .ok (.iadd, 1) := by decide +kernel
theorem dX7_money_8 : decode cX7_money 8 = .ok (.iaload, 1) := by decide +kernel
theorem dX7_money_9 : decode cX7_money 9 = .ok (.istore_n 2, 1) := by decide +kernel
theorem dX7_money_10 : decode cX7_money 10 = .ok (.aload_n 0, 1) := by decide +kernel
theorem dX7_money_11 : decode cX7_money 11 = .ok (.getfield 66, 3) := by decide +kernel
theorem dX7_money_14 : decode cX7_money 14 = .ok (.iload_n 2, 1) := by decide +kernel
theorem dX7_money_15 : decode cX7_money 15 = .ok (.imul, 1) := by decide +kernel
theorem dX7_money_16 : decode cX7_money 16 = .ok (.aload_n 0, 1) := by decide +kernel
theorem dX7_money_17 : decode cX7_money 17 = .ok (.getfield 7, 3) := by decide +kernel
theorem dX7_money_20 : decode cX7_money 20 = .ok (.iconst 3, 1) := by decide +kernel
theorem dX7_money_21 : decode cX7_money 21 = .ok (.iaload, 1) := by decide +kernel
theorem dX7_money_22 : decode cX7_money 22 = .ok (.imul, 1) := by decide +kernel
theorem dX7_money_23 : decode cX7_money 23 = .ok (.bipush 100, 2) := by decide +kernel
theorem dX7_money_25 : decode cX7_money 25 = .ok (.idiv, 1) := by decide +kernel
theorem dX7_money_26 : decode cX7_money 26 = .ok (.aload_n 0, 1) := by decide +kernel
theorem dX7_money_27 : decode cX7_money 27 = .ok (.getfield 54, 3) := by decide +kernel
theorem dX7_money_30 : decode cX7_money 30 = .ok (.iload_n 2, 1) := by decide +kernel
theorem dX7_money_31 : decode cX7_money 31 = .ok (.imul, 1) := by decide +kernel
theorem dX7_money_32 : decode cX7_money 32 = .ok (.isub, 1) := by decide +kernel
theorem dX7_money_33 : decode cX7_money 33 = .ok (.istore_n 3, 1) := by decide +kernel
theorem dX7_money_34 : decode cX7_money 34 = .ok (.iconst 0, 1) := by decide +kernel
theorem dX7_money_35 : decode cX7_money 35 = .ok (.istore 4, 2) := by decide +kernel
theorem dX7_money_37 : decode cX7_money 37 = .ok (.iload 4, 2) := by decide +kernel
theorem dX7_money_39 : decode cX7_money 39 = .ok (.aload_n 0, 1) := by decide +kernel
theorem dX7_money_40 : decode cX7_money 40 = .ok (.getfield 7, 3) := by decide +kernel
theorem dX7_money_43 : decode cX7_money 43 = .ok (.bipush 82, 2) := by decide +kernel
theorem dX7_money_45 : decode cX7_money 45 = .ok (.iaload, 1) := by decide +kernel
theorem dX7_money_46 : decode cX7_money 46 = .ok (.if_icmp .ge 51, 3) := by decide +kernel
theorem dX7_money_49 : decode cX7_money 49 = .ok (.aload_n 0, 1) := by decide +kernel
theorem dX7_money_50 : decode cX7_money 50 = .ok (.iload 4, 2) := by decide +kernel
theorem dX7_money_52 : decode cX7_money 52 = .ok (.iconst 0, 1) := by decide +kernel
theorem dX7_money_53 : decode cX7_money 53 = .ok (.invokevirtual 72, 3) := by decide +kernel
theorem dX7_money_56 : decode cX7_money 56 = .ok (.iload_n 1, 1) := by decide +kernel
theorem dX7_money_57 : decode cX7_money 57 = .ok (.if_icmp .ne 34, 3) := by decide +kernel
theorem dX7_money_60 : decode cX7_money 60 = .ok (.iload_n 3, 1) := by decide +kernel
theorem dX7_money_61 : decode cX7_money 61 = .ok (.aload_n 0, 1) := by decide +kernel
theorem dX7_money_62 : decode cX7_money 62 = .ok (.iload 4, 2) := by decide +kernel
theorem dX7_money_64 : decode cX7_money 64 = .ok (.iload_n 1, 1) := by decide +kernel
theorem dX7_money_65 : decode cX7_money 65 = .ok (.invokevirtual 76, 3) := by decide +kernel
theorem dX7_money_68 : decode cX7_money 68 = .ok (.ifCond .eq 14, 3) := by decide +kernel
theorem dX7_money_71 : decode cX7_money 71 = .ok (.aload_n 0, 1) := by decide +kernel
theorem dX7_money_72 : decode cX7_money 72 = .ok (.iload 4, 2) := by decide +kernel
theorem dX7_money_74 : decode cX7_money 74 = .ok (.iconst 3, 1) := by decide +kernel
theorem dX7_money_75 : decode cX7_money 75 = .ok (.invokevirtual 72, 3) := by decide +kernel
theorem dX7_money_78 : decode cX7_money 78 = .ok (.ineg, 1) := by decide +kernel
theorem dX7_money_79 : decode cX7_money 79 = .ok (.goto 10, 3) := by decide +kernel
theorem dX7_money_82 : decode cX7_money 82 = .ok (.aload_n 0, 1) := by decide +kernel
theorem dX7_money_83 : decode cX7_money 83 = .ok (.iload 4, 2) := by decide +kernel
theorem dX7_money_85 : decode cX7_money 85 = .ok (.iconst 2, 1) := by decide +kernel
theorem dX7_money_86 : decode cX7_money 86 = .ok (.invokevirtual 72, 3) := by decide +kernel
theorem dX7_money_89 : decode cX7_money 89 = .ok (.iadd, 1) := by decide +kernel
theorem dX7_money_90 : decode cX7_money 90 = .ok (.istore_n 3, 1) := by decide +kernel
theorem dX7_money_91 : decode cX7_money 91 = .ok (.iinc 4 1, 3) := by decide +kernel
theorem dX7_money_94 : decode cX7_money 94 = .ok (.goto (-57), 3) := by decide +kernel
theorem dX7_money_97 : decode cX7_money 97 = .ok (.iload_n 3, 1) := by decide +kernel
theorem dX7_money_98 : decode cX7_money 98 = .ok (.aload_n 0, 1) := by decide +kernel
theorem dX7_money_99 : decode cX7_money 99 = .ok (.getfield 66, 3) := by decide +kernel
theorem dX7_money_102 : decode cX7_money 102 = .ok (.aload_n 0, 1) := by decide +kernel
theorem dX7_money_103 : decode cX7_money 103 = .ok (.getfield 7, 3) := by decide +kernel
theorem dX7_money_106 : decode cX7_money 106 = .ok (.iconst 4, 1) := by decide +kernel
theorem dX7_money_107 : decode cX7_money 107 = .ok (.iaload, 1) := by decide +kernel
theorem dX7_money_108 : decode cX7_money 108 = .ok (.if_icmp .ge 13, 3) := by decide +kernel
theorem dX7_money_111 : decode cX7_money 111 = .ok (.aload_n 0, 1) := by decide +kernel
theorem dX7_money_112 : decode cX7_money 112 = .ok (.getfield 7, 3) := by decide +kernel
theorem dX7_money_115 : decode cX7_money 115 = .ok (.bipush 9, 2) := by decide +kernel
theorem dX7_money_117 : decode cX7_money 117 = .ok (.iaload, 1) := by decide +kernel
theorem dX7_money_118 : decode cX7_money 118 = .ok (.goto 4, 3) := by decide +kernel
theorem dX7_money_121 : decode cX7_money 121 = .ok (.iconst 0, 1) := by decide +kernel
theorem dX7_money_122 : decode cX7_money 122 = .ok (.isub, 1) := by decide +kernel
theorem dX7_money_123 : decode cX7_money 123 = .ok (.ireturn, 1) := by decide +kernel
set_option maxRecDepth 20000 in
theorem ggX7_missed_X7_isMissed : GoodIn wsX7_missed wsX7_isMissed := goodIn_r _ [6, 7, 8, 9, 10, 5, 11, 1, 12, 13, 14, 15, 16, 17, 18, 19, 20, 21, 22, 23, 24, 25, 26, 27, 28, 29] (by decide +kernel) (by decide +kernel)
set_option maxRecDepth 20000 in
theorem gX7_missed_X7_isMissed : GoodIn wsX7_missed (wsV RX7 76 RX7 yX7_isMissed wsX7_isMissed) := goodIn_app (goodIn_of _ (by decide +kernel)) ggX7_missed_X7_isMissed
theorem dX7_missed_0 : decode cX7_missed 0 = .ok (.iconst 0, 1) := by decide +kernel
theorem dX7_missed_1 : decode cX7_missed 1 = .ok (.istore_n 2, 1) := by decide +kernel
theorem dX7_missed_2 : decode cX7_missed 2 = .ok (.iconst 0, 1) := by decide +kernel
theorem dX7_missed_3 : decode cX7_missed 3 = .ok (.istore_n 3, 1) := by decide +kernel
theorem dX7_missed_4 : decode cX7_missed 4 = .ok (.iload_n 3, 1) := by decide +kernel
theorem dX7_missed_5 : decode cX7_missed 5 = .ok (.aload_n 0, 1) := by decide +kernel
theorem dX7_missed_6 : decode cX7_missed 6 = .ok (.getfield 7, 3) := by decide +kernel
theorem dX7_missed_9 : decode cX7_missed 9 = .ok (.bipush 82, 2) := by decide +kernel
theorem dX7_missed_11 : decode cX7_missed 11 = .ok (.iaload, 1) := by decide +kernel
theorem dX7_missed_12 : decode cX7_missed 12 = .ok (.if_icmp .ge 26, 3) := by decide +kernel
theorem dX7_missed_15 : decode cX7_missed 15 = .ok (.iload_n 2, 1) := by decide +kernel
theorem dX7_missed_16 : decode cX7_missed 16 = .ok (.aload_n 0, 1) := by decide +kernel
theorem dX7_missed_17 : decode cX7_missed 17 = .ok (.iload_n 3, 1) := by decide +kernel
theorem dX7_missed_18 : decode cX7_missed 18 = .ok (.iload_n 1, 1) := by decide +kernel
theorem dX7_missed_19 : decode cX7_missed 19 = .ok (.invokevirtual 76, 3) := by decide +kernel
theorem dX7_missed_22 : decode cX7_missed 22 = .ok (.ifCond .eq 7, 3) := by decide +kernel
theorem dX7_missed_25 : decode cX7_missed 25 = .ok (.iconst 1, 1) := by decide +kernel
theorem dX7_missed_26 : decode cX7_missed 26 = .ok (.goto 4, 3) := by decide +kernel
theorem dX7_missed_29 : decode cX7_missed 29 = .ok (.iconst 0, 1) := by decide +kernel
theorem dX7_missed_30 : decode cX7_missed 30 = .ok (.iadd, 1) := by decide +kernel
theorem dX7_missed_31 : decode cX7_missed 31 = .ok (.istore_n 2, 1) := by decide +kernel
theorem dX7_missed_32 : decode cX7_missed 32 = .ok (.iinc 3 1, 3) := by decide +kernel
theorem dX7_missed_35 : decode cX7_missed 35 = .ok (.goto (-31), 3) := by decide +kernel
theorem dX7_missed_38 : decode cX7_missed 38 = .ok (.iload_n 2, 1) := by decide +kernel
theorem dX7_missed_39 : decode cX7_missed 39 = .ok (.ireturn, 1) := by decide +kernel
set_option maxRecDepth 20000 in
theorem ggX7_trouble_X7_missed : GoodIn wsX7_trouble wsX7_missed := goodIn_r _ [9, 2, 10, 11, 12, 8, 13, 1, 14, 15, 16, 17, 18, 19, 20, 21, 22, 23, 24, 25, 26, 27, 28, 29, 30, 31, 32, 33, 34, 35] (by decide +kernel) (by decide +kernel)
set_option maxRecDepth 20000 in
theorem gX7_trouble_X7_missed : GoodIn wsX7_trouble (wsV RX7 80 RX7 yX7_missed wsX7_missed) := goodIn_app (goodIn_of _ (by decide +kernel)) ggX7_trouble_X7_missed
theorem dX7_trouble_0 : decode cX7_trouble 0 = .ok (.aload_n 0, 1) := by decide +kernel
theorem dX7_trouble_1 : decode cX7_trouble 1 = .ok (.getfield 66, 3) := by decide +kernel
theorem dX7_trouble_4 : decode cX7_trouble 4 = .ok (.aload_n 0, 1) := by decide +kernel
theorem dX7_trouble_5 : decode cX7_trouble 5 = .ok (.getfield 7, 3) := by decide +kernel
theorem dX7_trouble_8 : decode cX7_trouble 8 = .ok (.iconst 4, 1) := by decide +kernel
theorem dX7_trouble_9 : decode cX7_trouble 9 = .ok (.iaload, 1) := by decide +kernel
theorem dX7_trouble_10 : decode cX7_trouble 10 = .ok (.if_icmp .ge 5, 3) := by decide +kernel
theorem dX7_trouble_13 : decode cX7_trouble 13 = .ok (.iconst 1, 1) := by decide +kernel
theorem dX7_trouble_14 : decode cX7_trouble 14 = .ok (.ireturn, 1) := by decide +kernel
theorem dX7_trouble_15 : decode cX7_trouble 15 = .ok (.aload_n 0, 1) := by decide +kernel
theorem dX7_trouble_16 : decode cX7_trouble 16 = .ok (.getfield 66, 3) := by decide +kernel
theorem dX7_trouble_19 : decode cX7_trouble 19 = .ok (.aload_n 0, 1) := by decide +kernel
theorem dX7_trouble_20 : decode cX7_trouble 20 = .ok (.getfield 63, 3) := by decide +kernel
theorem dX7_trouble_23 : decode cX7_trouble 23 = .ok (.if_icmp .ge 7, 3) := by decide +kernel
theorem dX7_trouble_26 : decode cX7_trouble 26 = .ok (.iconst 2, 1) := by decide +kernel
theorem dX7_trouble_27 : decode cX7_trouble 27 = .ok (.goto 27, 3) := by decide +kernel
theorem dX7_trouble_30 : decode cX7_trouble 30 = .ok (.aload_n 0, 1) := by decide +kernel
theorem dX7_trouble_31 : decode cX7_trouble 31 = .ok (.iload_n 1, 1) := by decide +kernel
theorem dX7_trouble_32 : decode cX7_trouble 32 = .ok (.invokevirtual 80, 3) := by decide +kernel
theorem dX7_trouble_35 : decode cX7_trouble 35 = .ok (.ifCond .le 7, 3) := by decide +kernel
theorem dX7_trouble_38 : decode cX7_trouble 38 = .ok (.iconst 3, 1) := by decide +kernel
theorem dX7_trouble_39 : decode cX7_trouble 39 = .ok (.goto 15, 3) := by decide +kernel
theorem dX7_trouble_42 : decode cX7_trouble 42 = .ok (.aload_n 0, 1) := by decide +kernel
theorem dX7_trouble_43 : decode cX7_trouble 43 = .ok (.getfield 69, 3) := by decide +kernel
theorem dX7_trouble_46 : decode cX7_trouble 46 = .ok (.ifCond .le 7, 3) := by decide +kernel
theorem dX7_trouble_49 : decode cX7_trouble 49 = .ok (.iconst 4, 1) := by decide +kernel
theorem dX7_trouble_50 : decode cX7_trouble 50 = .ok (.goto 4, 3) := by decide +kernel
theorem dX7_trouble_53 : decode cX7_trouble 53 = .ok (.iconst 0, 1) := by decide +kernel
theorem dX7_trouble_54 : decode cX7_trouble 54 = .ok (.ireturn, 1) := by decide +kernel
set_option maxRecDepth 20000 in
theorem ggX7_goesTo_X7_goes : GoodIn wsX7_goesTo wsX7_goes := goodIn_r _ [8, 9, 1, 10, 2, 11, 12, 3, 13, 14, 15, 16, 17, 18, 19, 20, 21, 22, 23, 24, 25, 26, 27, 28, 29, 30] (by decide +kernel) (by decide +kernel)
set_option maxRecDepth 20000 in
theorem gX7_goesTo_X7_goes : GoodIn wsX7_goesTo (wsV RX7 83 RX7 yX7_goes wsX7_goes) := goodIn_app (goodIn_of _ (by decide +kernel)) ggX7_goesTo_X7_goes
theorem dX7_goesTo_0 : decode cX7_goesTo 0 = .ok (.bipush (-6), 2) := by decide +kernel
theorem dX7_goesTo_2 : decode cX7_goesTo 2 = .ok (.istore_n 2, 1) := by decide +kernel
theorem dX7_goesTo_3 : decode cX7_goesTo 3 = .ok (.aload_n 0, 1) := by decide +kernel
theorem dX7_goesTo_4 : decode cX7_goesTo 4 = .ok (.aload_n 0, 1) := by decide +kernel
theorem dX7_goesTo_5 : decode cX7_goesTo 5 = .ok (.getfield 7, 3) := by decide +kernel
theorem dX7_goesTo_8 : decode cX7_goesTo 8 = .ok (.bipush 7, 2) := by decide +kernel
theorem dX7_goesTo_10 : decode cX7_goesTo 10 = .ok (.iaload, 1) := by decide +kernel
theorem dX7_goesTo_11 : decode cX7_goesTo 11 = .ok (.putfield 60, 3) := by decide +kernel
theorem dX7_goesTo_14 : decode cX7_goesTo 14 = .ok (.iconst 0, 1) := by decide +kernel
theorem dX7_goesTo_15 : decode cX7_goesTo 15 = .ok (.istore_n 3, 1) := by decide +kernel
theorem dX7_goesTo_16 : decode cX7_goesTo 16 = .ok (.iload_n 3, 1) := by decide +kernel
theorem dX7_goesTo_17 : decode cX7_goesTo 17 = .ok (.iload_n 1, 1) := by decide +kernel
theorem dX7_goesTo_18 : decode cX7_goesTo 18 = .ok (.if_icmp .gt 46, 3) := by decide +kernel
theorem dX7_goesTo_21 : decode cX7_goesTo 21 = .ok (.iload_n 3, 1) := by decide +kernel
theorem dX7_goesTo_22 : decode cX7_goesTo 22 = .ok (.ifCond .le 16, 3) := by decide +kernel
theorem dX7_goesTo_25 : decode cX7_goesTo 25 = .ok (.aload_n 0, 1) := by decide +kernel
theorem dX7_goesTo_26 : decode cX7_goesTo 26 = .ok (.getfield 69, 3) := by decide +kernel
theorem dX7_goesTo_29 : decode cX7_goesTo 29 = .ok (.ifCond .le 9, 3) := by decide +kernel
theorem dX7_goesTo_32 : decode cX7_goesTo 32 = .ok (.iload_n 3, 1) := by decide +kernel
theorem dX7_goesTo_33 : decode cX7_goesTo 33 = .ok (.iconst 1, 1) := by decide +kernel
theorem dX7_goesTo_34 : decode cX7_goesTo 34 = .ok (.isub, 1) := by decide +kernel
theorem dX7_goesTo_35 : decode cX7_goesTo 35 = .ok (.goto 4, 3) := by decide +kernel
theorem dX7_goesTo_38 : decode cX7_goesTo 38 = .ok (.iload_n 2, 1) := by decide +kernel
theorem dX7_goesTo_39 : decode cX7_goesTo 39 = .ok (.istore_n 2, 1) := by decide +kernel
theorem dX7_goesTo_40 : decode cX7_goesTo 40 = .ok (.aload_n 0, 1) := by decide +kernel
theorem dX7_goesTo_41 : decode cX7_goesTo 41 = .ok (.iload_n 3, 1) := by decide +kernel
theorem dX7_goesTo_42 : decode cX7_goesTo 42 = .ok (.aload_n 0, 1) := by decide +kernel
theorem dX7_goesTo_43 : decode cX7_goesTo 43 = .ok (.getfield 60, 3) := by decide +kernel
theorem dX7_goesTo_46 : decode cX7_goesTo 46 = .ok (.aload_n 0, 1) := by decide +kernel
theorem dX7_goesTo_47 : decode cX7_goesTo 47 = .ok (.getfield 7, 3) := by decide +kernel
theorem dX7_goesTo_50 : decode cX7_goesTo 50 = .ok (.bipush 58, 2) := by decide +kernel
theorem dX7_goesTo_52 : decode cX7_goesTo 52 = .ok (.iload_n 3, 1) := by decide +kernel
theorem dX7_goesTo_53 : decode cX7_goesTo 53 = .ok (.iadd, 1) := by decide +kernel
theorem dX7_goesTo_54 : decode cX7_goesTo 54 = .ok (.iaload, 1) := by decide +kernel
theorem dX7_goesTo_55 : decode cX7_goesTo 55 = .ok (.invokevirtual 83, 3) := by decide +kernel
theorem dX7_goesTo_58 : decode cX7_goesTo 58 = .ok (.iinc 3 1, 3) := by decide +kernel
theorem dX7_goesTo_61 : decode cX7_goesTo 61 = .ok (.goto (-45), 3) := by decide +kernel
theorem dX7_goesTo_64 : decode cX7_goesTo 64 = .ok (.iload_n 2, 1) := by decide +kernel
theorem dX7_goesTo_65 : decode cX7_goesTo 65 = .ok (.ireturn, 1) := by decide +kernel
set_option maxRecDepth 20000 in
theorem ggX7_plans_X7_from : GoodIn wsX7_plans wsX7_from := goodIn_r _ [8, 1, 9, 3, 10, 11, 12, 7, 13, 14, 2, 15, 16, 17, 18, 19, 20, 21, 22, 23, 24, 25, 26, 27, 28, 29, 30, 31, 32, 33, 34, 35, 36, 37, 38, 39, 40, 41, 42, 43, 44, 45, 46, 47, 48] (by decide +kernel) (by decide +kernel)
set_option maxRecDepth 20000 in
theorem gX7_plans_X7_from : GoodIn wsX7_plans (wsV RX7 88 RX7 yX7_from wsX7_from) := goodIn_app (goodIn_of _ (by decide +kernel)) ggX7_plans_X7_from
theorem dX7_plans_0 : decode cX7_plans 0 = .ok (.iconst 0, 1) := by decide +kernel
theorem dX7_plans_1 : decode cX7_plans 1 = .ok (.istore_n 1, 1) := by decide +kernel
theorem dX7_plans_2 : decode cX7_plans 2 = .ok (.iload_n 1, 1) := by decide +kernel
theorem dX7_plans_3 : decode cX7_plans 3 = .ok (.sipush 201, 3) := by decide +kernel
theorem dX7_plans_6 : decode cX7_plans 6 = .ok (.if_icmp .ge 36, 3) := by decide +kernel
theorem dX7_plans_9 : decode cX7_plans 9 = .ok (.aload_n 0, 1) := by decide +kernel
theorem dX7_plans_10 : decode cX7_plans 10 = .ok (.getfield 29, 3) := by decide +kernel
theorem dX7_plans_13 : decode cX7_plans 13 = .ok (.sipush 4824, 3) := by decide +kernel
theorem dX7_plans_16 : decode cX7_plans 16 = .ok (.iload_n 1, 1) := by decide +kernel
theorem dX7_plans_17 : decode cX7_plans 17 = .ok (.iadd, 1) := by decide +kernel
theorem dX7_plans_18 : decode cX7_plans 18 = .ok (.iload_n 1, 1) := by decide +kernel
theorem dX7_plans_19 : decode cX7_plans 19 = .ok (.aload_n 0, 1) := by decide +kernel
theorem dX7_plans_20 : decode cX7_plans 20 = .ok (.getfield 7, 3) := by decide +kernel
theorem dX7_plans_23 : decode cX7_plans 23 = .ok (.bipush 8, 2) := by decide +kernel
theorem dX7_plans_25 : decode cX7_plans 25 = .ok (.iaload, 1) := by decide +kernel
theorem dX7_plans_26 : decode cX7_plans 26 = .ok (.if_icmp .lt 7, 3) := by decide +kernel
theorem dX7_plans_29 : decode cX7_plans 29 = .ok (.iconst 0, 1) := by decide +kernel
theorem dX7_plans_30 : decode cX7_plans 30 = .ok (.goto 5, 3) := by decide +kernel
theorem dX7_plans_33 : decode cX7_plans 33 = .ok (.ldc 87, 2) := by decide +kernel
theorem dX7_plans_35 : decode cX7_plans 35 = .ok (.iastore, 1) := by decide +kernel
theorem dX7_plans_36 : decode cX7_plans 36 = .ok (.iinc 1 1, 3) := by decide +kernel
theorem dX7_plans_39 : decode cX7_plans 39 = .ok (.goto (-37), 3) := by decide +kernel
theorem dX7_plans_42 : decode cX7_plans 42 = .ok (.bipush 23, 2) := by decide +kernel
theorem dX7_plans_44 : decode cX7_plans 44 = .ok (.istore_n 1, 1) := by decide +kernel
theorem dX7_plans_45 : decode cX7_plans 45 = .ok (.iload_n 1, 1) := by decide +kernel
theorem dX7_plans_46 : decode cX7_plans 46 = .ok (.ifCond .lt 89, 3) := by decide +kernel
theorem dX7_plans_49 : decode cX7_plans 49 = .ok (.iconst 0, 1) := by decide +kernel
theorem dX7_plans_50 : decode cX7_plans 50 = .ok (.istore_n 2, 1) := by decide +kernel
theorem dX7_plans_51 : decode cX7_plans 51 = .ok (.iload_n 2, 1) := by decide +kernel
theorem dX7_plans_52 : decode cX7_plans 52 = .ok (.sipush 201, 3) := by decide +kernel
theorem dX7_plans_55 : decode cX7_plans 55 = .ok (.if_icmp .ge 74, 3) := by decide +kernel
theorem dX7_plans_58 : decode cX7_plans 58 = .ok (.ldc 87, 2) := by decide +kernel
theorem dX7_plans_60 : decode cX7_plans 60 = .ok (.istore_n 3, 1) := by decide +kernel
theorem dX7_plans_61 : decode cX7_plans 61 = .ok (.aload_n 0, 1) := by decide +kernel
theorem dX7_plans_62 : decode cX7_plans 62 = .ok (.getfield 7, 3) := by decide +kernel
theorem dX7_plans_65 : decode cX7_plans 65 = .ok (.iconst 0, 1) := by decide +kernel
theorem dX7_plans_66 : decode cX7_plans 66 = .ok (.iaload, 1) := by decide +kernel
theorem dX7_plans_67 : decode cX7_plans 67 = .ok (.ineg, 1) := by decide +kernel
theorem dX7_plans_68 : decode cX7_plans 68 = .ok (.istore 4, 2) := by decide +kernel
theorem dX7_plans_70 : decode cX7_plans 70 = .ok (.iload 4, 2) := by decide +kernel
theorem dX7_plans_72 : decode cX7_plans 72 = .ok (.aload_n 0, 1) := by decide +kernel
theorem dX7_plans_73 : decode cX7_plans 73 = .ok (.getfield 7, 3) := by decide +kernel
theorem dX7_plans_76 : decode cX7_plans 76 = .ok (.iconst 1, 1) := by decide +kernel
theorem dX7_plans_77 : decode cX7_plans 77 = .ok (.iaload, 1) := by decide +kernel
theorem dX7_plans_78 : decode cX7_plans 78 = .ok (.if_icmp .gt 32, 3) := by decide +kernel
theorem dX7_plans_81 : decode cX7_plans 81 = .ok (.aload_n 0, 1) := by decide +kernel
theorem dX7_plans_82 : decode cX7_plans 82 = .ok (.iload_n 1, 1) := by decide +kernel
theorem dX7_plans_83 : decode cX7_plans 83 = .ok (.iload_n 2, 1) := by decide +kernel
theorem dX7_plans_84 : decode cX7_plans 84 = .ok (.iload 4, 2) := by decide +kernel
theorem dX7_plans_86 : decode cX7_plans 86 = .ok (.invokevirtual 88, 3) := by decide +kernel
