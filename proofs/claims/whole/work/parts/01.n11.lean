theorem dX7_plans_89 : decode cX7_plans 89 = .ok (.istore 5, 2) := by decide +kernel
theorem dX7_plans_91 : decode cX7_plans 91 = .ok (.iload 5, 2) := by decide +kernel
theorem dX7_plans_93 : decode cX7_plans 93 = .ok (.iload_n 3, 1) := by decide +kernel
theorem dX7_plans_94 : decode cX7_plans 94 = .ok (.if_icmp .le 8, 3) := by decide +kernel
theorem dX7_plans_97 : decode cX7_plans 97 = .ok (.iload 5, 2) := by decide +kernel
theorem dX7_plans_99 : decode cX7_plans 99 = .ok (.goto 4, 3) := by decide +kernel
theorem dX7_plans_102 : decode cX7_plans 102 = .ok (.iload_n 3, 1) := by decide +kernel
theorem dX7_plans_103 : decode cX7_plans 103 = .ok (.istore_n 3, 1) := by decide +kernel
theorem dX7_plans_104 : decode cX7_plans 104 = .ok (.iinc 4 1, 3) := by decide +kernel
theorem dX7_plans_107 : decode cX7_plans 107 = .ok (.goto (-37), 3) := by decide +kernel
theorem dX7_plans_110 : decode cX7_plans 110 = .ok (.aload_n 0, 1) := by decide +kernel
theorem dX7_plans_111 : decode cX7_plans 111 = .ok (.getfield 29, 3) := by decide +kernel
theorem dX7_plans_114 : decode cX7_plans 114 = .ok (.sipush 201, 3) := by decide +kernel
theorem dX7_plans_117 : decode cX7_plans 117 = .ok (.iload_n 1, 1) := by decide +kernel
theorem dX7_plans_118 : decode cX7_plans 118 = .ok (.imul, 1) := by decide +kernel
theorem dX7_plans_119 : decode cX7_plans 119 = .ok (.iload_n 2, 1) := by decide +kernel
theorem dX7_plans_120 : decode cX7_plans 120 = .ok (.iadd, 1) := by decide +kernel
theorem dX7_plans_121 : decode cX7_plans 121 = .ok (.iload_n 3, 1) := by decide +kernel
theorem dX7_plans_122 : decode cX7_plans 122 = .ok (.iastore, 1) := by decide +kernel
theorem dX7_plans_123 : decode cX7_plans 123 = .ok (.iinc 2 1, 3) := by decide +kernel
theorem dX7_plans_126 : decode cX7_plans 126 = .ok (.goto (-75), 3) := by decide +kernel
theorem dX7_plans_129 : decode cX7_plans 129 = .ok (.iinc 1 (-1), 3) := by decide +kernel
theorem dX7_plans_132 : decode cX7_plans 132 = .ok (.goto (-87), 3) := by decide +kernel
theorem dX7_plans_135 : decode cX7_plans 135 = .ok (.return_, 1) := by decide +kernel
set_option maxRecDepth 20000 in
theorem ggX7_from_X7_goes : GoodIn wsX7_from wsX7_goes := goodIn_r _ [8, 9, 10, 11, 2, 12, 13, 14, 27, 28, 29, 30, 31, 32, 33, 34, 35, 36, 37, 38, 39, 40, 41, 42, 43, 44] (by decide +kernel) (by decide +kernel)
set_option maxRecDepth 20000 in
theorem gX7_from_X7_goes : GoodIn wsX7_from (wsV RX7 83 RX7 yX7_goes wsX7_goes) := goodIn_app (goodIn_of _ (by decide +kernel)) ggX7_from_X7_goes
set_option maxRecDepth 20000 in
theorem ggX7_from_X7_money : GoodIn wsX7_from wsX7_money := goodIn_r _ [18, 10, 13, 9, 19, 20, 21, 7, 22, 23, 24, 25, 26, 27, 28, 29, 30, 31, 32, 33, 34, 35, 36, 37, 38, 39, 40, 41, 42, 43, 44] (by decide +kernel) (by decide +kernel)
set_option maxRecDepth 20000 in
theorem gX7_from_X7_money : GoodIn wsX7_from (wsV RX7 92 RX7 yX7_money wsX7_money) := goodIn_app (goodIn_of _ (by decide +kernel)) ggX7_from_X7_money
theorem dX7_from_0 : decode cX7_from 0 = .ok (.aload_n 0, 1) := by decide +kernel
theorem dX7_from_1 : decode cX7_from 1 = .ok (.iload_n 1, 1) := by decide +kernel
theorem dX7_from_2 : decode cX7_from 2 = .ok (.iload_n 2, 1) := by decide +kernel
theorem dX7_from_3 : decode cX7_from 3 = .ok (.iload_n 3, 1) := by decide +kernel
theorem dX7_from_4 : decode cX7_from 4 = .ok (.invokevirtual 83, 3) := by decide +kernel
theorem dX7_from_7 : decode cX7_from 7 = .ok (.aload_n 0, 1) := by decide +kernel
theorem dX7_from_8 : decode cX7_from 8 = .ok (.getfield 29, 3) := by decide +kernel
theorem dX7_from_11 : decode cX7_from 11 = .ok (.sipush 201, 3) := by decide +kernel
theorem dX7_from_14 : decode cX7_from 14 = .ok (.iload_n 1, 1) := by decide +kernel
theorem dX7_from_15 : decode cX7_from 15 = .ok (.iconst 1, 1) := by decide +kernel
theorem dX7_from_16 : decode cX7_from 16 = .ok (.iadd, 1) := by decide +kernel
theorem dX7_from_17 : decode cX7_from 17 = .ok (.imul, 1) := by decide +kernel
theorem dX7_from_18 : decode cX7_from 18 = .ok (.aload_n 0, 1) := by decide +kernel
theorem dX7_from_19 : decode cX7_from 19 = .ok (.getfield 60, 3) := by decide +kernel
theorem dX7_from_22 : decode cX7_from 22 = .ok (.iadd, 1) := by decide +kernel
theorem dX7_from_23 : decode cX7_from 23 = .ok (.iaload, 1) := by decide +kernel
theorem dX7_from_24 : decode cX7_from 24 = .ok (.istore 4, 2) := by decide +kernel
theorem dX7_from_26 : decode cX7_from 26 = .ok (.iload 4, 2) := by decide +kernel
theorem dX7_from_28 : decode cX7_from 28 = .ok (.ldc 87, 2) := by decide +kernel
theorem dX7_from_30 : decode cX7_from 30 = .ok (.if_icmp .ne 8, 3) := by decide +kernel
theorem dX7_from_33 : decode cX7_from 33 = .ok (.ldc 87, 2) := by decide +kernel
theorem dX7_from_35 : decode cX7_from 35 = .ok (.goto 11, 3) := by decide +kernel
theorem dX7_from_38 : decode cX7_from 38 = .ok (.iload 4, 2) := by decide +kernel
theorem dX7_from_40 : decode cX7_from 40 = .ok (.aload_n 0, 1) := by decide +kernel
theorem dX7_from_41 : decode cX7_from 41 = .ok (.iload_n 1, 1) := by decide +kernel
theorem dX7_from_42 : decode cX7_from 42 = .ok (.invokevirtual 92, 3) := by decide +kernel
theorem dX7_from_45 : decode cX7_from 45 = .ok (.iadd, 1) := by decide +kernel
theorem dX7_from_46 : decode cX7_from 46 = .ok (.ireturn, 1) := by decide +kernel
set_option maxRecDepth 20000 in
theorem ggX7_isPlanned_X7_plans : GoodIn wsX7_isPlanned wsX7_plans := goodIn_r _ [8, 1, 2, 3, 9, 10, 11, 7, 12, 13, 14, 15, 16, 17, 18, 19, 20, 21, 22, 23, 24, 25, 26, 27, 28, 29, 30, 31, 32, 33, 34, 35, 36, 37, 38, 39, 40, 41, 42, 43, 44, 45, 46, 47, 48, 49, 50, 51, 52] (by decide +kernel) (by decide +kernel)
set_option maxRecDepth 20000 in
theorem gX7_isPlanned_X7_plans : GoodIn wsX7_isPlanned (wsV RX7 95 RX7 yX7_plans wsX7_plans) := goodIn_app (goodIn_of _ (by decide +kernel)) ggX7_isPlanned_X7_plans
theorem dX7_isPlanned_0 : decode cX7_isPlanned 0 = .ok (.aload_n 0, 1) := by decide +kernel
theorem dX7_isPlanned_1 : decode cX7_isPlanned 1 = .ok (.invokevirtual 95, 3) := by decide +kernel
theorem dX7_isPlanned_4 : decode cX7_isPlanned 4 = .ok (.aload_n 0, 1) := by decide +kernel
theorem dX7_isPlanned_5 : decode cX7_isPlanned 5 = .ok (.getfield 29, 3) := by decide +kernel
theorem dX7_isPlanned_8 : decode cX7_isPlanned 8 = .ok (.aload_n 0, 1) := by decide +kernel
theorem dX7_isPlanned_9 : decode cX7_isPlanned 9 = .ok (.getfield 7, 3) := by decide +kernel
theorem dX7_isPlanned_12 : decode cX7_isPlanned 12 = .ok (.bipush 7, 2) := by decide +kernel
theorem dX7_isPlanned_14 : decode cX7_isPlanned 14 = .ok (.iaload, 1) := by decide +kernel
theorem dX7_isPlanned_15 : decode cX7_isPlanned 15 = .ok (.iaload, 1) := by decide +kernel
theorem dX7_isPlanned_16 : decode cX7_isPlanned 16 = .ok (.ldc 87, 2) := by decide +kernel
theorem dX7_isPlanned_18 : decode cX7_isPlanned 18 = .ok (.if_icmp .eq 7, 3) := by decide +kernel
theorem dX7_isPlanned_21 : decode cX7_isPlanned 21 = .ok (.iconst 1, 1) := by decide +kernel
theorem dX7_isPlanned_22 : decode cX7_isPlanned 22 = .ok (.goto 4, 3) := by decide +kernel
theorem dX7_isPlanned_25 : decode cX7_isPlanned 25 = .ok (.iconst 0, 1) := by decide +kernel
theorem dX7_isPlanned_26 : decode cX7_isPlanned 26 = .ok (.ireturn, 1) := by decide +kernel
set_option maxRecDepth 20000 in
theorem ggX7_bestOf_X7_from : GoodIn wsX7_bestOf wsX7_from := goodIn_r _ [7, 2, 8, 9, 10, 11, 12, 6, 13, 14, 1, 15, 16, 17, 18, 19, 20, 21, 22, 23, 24, 25, 26, 27, 28, 29, 30, 31, 32, 33, 34, 35, 36, 37, 38, 39, 40, 41, 42, 43, 44, 45, 46, 47, 48] (by decide +kernel) (by decide +kernel)
set_option maxRecDepth 20000 in
theorem gX7_bestOf_X7_from : GoodIn wsX7_bestOf (wsV RX7 88 RX7 yX7_from wsX7_from) := goodIn_app (goodIn_of _ (by decide +kernel)) ggX7_bestOf_X7_from
theorem dX7_bestOf_0 : decode cX7_bestOf 0 = .ok (.aload_n 0, 1) := by decide +kernel
theorem dX7_bestOf_1 : decode cX7_bestOf 1 = .ok (.getfield 7, 3) := by decide +kernel
theorem dX7_bestOf_4 : decode cX7_bestOf 4 = .ok (.iconst 0, 1) := by decide +kernel
theorem dX7_bestOf_5 : decode cX7_bestOf 5 = .ok (.iaload, 1) := by decide +kernel
theorem dX7_bestOf_6 : decode cX7_bestOf 6 = .ok (.ineg, 1) := by decide +kernel
theorem dX7_bestOf_7 : decode cX7_bestOf 7 = .ok (.istore_n 3, 1) := by decide +kernel
theorem dX7_bestOf_8 : decode cX7_bestOf 8 = .ok (.aload_n 0, 1) := by decide +kernel
theorem dX7_bestOf_9 : decode cX7_bestOf 9 = .ok (.iload_n 1, 1) := by decide +kernel
theorem dX7_bestOf_10 : decode cX7_bestOf 10 = .ok (.iload_n 2, 1) := by decide +kernel
theorem dX7_bestOf_11 : decode cX7_bestOf 11 = .ok (.iload_n 3, 1) := by decide +kernel
theorem dX7_bestOf_12 : decode cX7_bestOf 12 = .ok (.invokevirtual 88, 3) := by decide +kernel
theorem dX7_bestOf_15 : decode cX7_bestOf 15 = .ok (.aload_n 0, 1) := by decide +kernel
theorem dX7_bestOf_16 : decode cX7_bestOf 16 = .ok (.getfield 29, 3) := by decide +kernel
theorem dX7_bestOf_19 : decode cX7_bestOf 19 = .ok (.sipush 201, 3) := by decide +kernel
theorem dX7_bestOf_22 : decode cX7_bestOf 22 = .ok (.iload_n 1, 1) := by decide +kernel
theorem dX7_bestOf_23 : decode cX7_bestOf 23 = .ok (.imul, 1) := by decide +kernel
theorem dX7_bestOf_24 : decode cX7_bestOf 24 = .ok (.iload_n 2, 1) := by decide +kernel
theorem dX7_bestOf_25 : decode cX7_bestOf 25 = .ok (.iadd, 1) := by decide +kernel
theorem dX7_bestOf_26 : decode cX7_bestOf 26 = .ok (.iaload, 1) := by decide +kernel
theorem dX7_bestOf_27 : decode cX7_bestOf 27 = .ok (.if_icmp .eq 9, 3) := by decide +kernel
theorem dX7_bestOf_30 : decode cX7_bestOf 30 = .ok (.iinc 3 1, 3) := by decide +kernel
theorem dX7_bestOf_33 : decode cX7_bestOf 33 = .ok (.goto (-25), 3) := by decide +kernel
theorem dX7_bestOf_36 : decode cX7_bestOf 36 = .ok (.iload_n 3, 1) := by decide +kernel
theorem dX7_bestOf_37 : decode cX7_bestOf 37 = .ok (.ireturn, 1) := by decide +kernel
set_option maxRecDepth 20000 in
theorem ggX7_isFor_X7_in : GoodIn wsX7_isFor wsX7_in := goodIn_r _ [4] (by decide +kernel) (by decide +kernel)
set_option maxRecDepth 20000 in
theorem gX7_isFor_X7_in : GoodIn wsX7_isFor (va_wsS RX7 35 yX7_in wsX7_in) := goodIn_app (goodIn_of _ (by decide +kernel)) ggX7_isFor_X7_in
theorem dX7_isFor_0 : decode cX7_isFor 0 = .ok (.iload_n 0, 1) := by decide +kernel
theorem dX7_isFor_1 : decode cX7_isFor 1 = .ok (.tableswitch 80 0 9 #[55, 55, 63, 63, 55, 80, 80, 80, 80, 71], 55) := by decide +kernel
theorem dX7_isFor_56 : decode cX7_isFor 56 = .ok (.iload_n 1, 1) := by decide +kernel
theorem dX7_isFor_57 : decode cX7_isFor 57 = .ok (.iconst 0, 1) := by decide +kernel
theorem dX7_isFor_58 : decode cX7_isFor 58 = .ok (.bipush 30, 2) := by decide +kernel
theorem dX7_isFor_60 : decode cX7_isFor 60 = .ok (.invokestatic 35, 3) := by decide +kernel
theorem dX7_isFor_63 : decode cX7_isFor 63 = .ok (.ireturn, 1) := by decide +kernel
theorem dX7_isFor_64 : decode cX7_isFor 64 = .ok (.iload_n 1, 1) := by decide +kernel
theorem dX7_isFor_65 : decode cX7_isFor 65 = .ok (.iconst 0, 1) := by decide +kernel
theorem dX7_isFor_66 : decode cX7_isFor 66 = .ok (.bipush 100, 2) := by decide +kernel
theorem dX7_isFor_68 : decode cX7_isFor 68 = .ok (.invokestatic 35, 3) := by decide +kernel
theorem dX7_isFor_71 : decode cX7_isFor 71 = .ok (.ireturn, 1) := by decide +kernel
theorem dX7_isFor_72 : decode cX7_isFor 72 = .ok (.iload_n 1, 1) := by decide +kernel
theorem dX7_isFor_73 : decode cX7_isFor 73 = .ok (.iconst 0, 1) := by decide +kernel
theorem dX7_isFor_74 : decode cX7_isFor 74 = .ok (.sipush 999, 3) := by decide +kernel
theorem dX7_isFor_77 : decode cX7_isFor 77 = .ok (.invokestatic 35, 3) := by decide +kernel
theorem dX7_isFor_80 : decode cX7_isFor 80 = .ok (.ireturn, 1) := by decide +kernel
theorem dX7_isFor_81 : decode cX7_isFor 81 = .ok (.iload_n 1, 1) := by decide +kernel
theorem dX7_isFor_82 : decode cX7_isFor 82 = .ok (.iconst 0, 1) := by decide +kernel
theorem dX7_isFor_83 : decode cX7_isFor 83 = .ok (.sipush 200, 3) := by decide +kernel
theorem dX7_isFor_86 : decode cX7_isFor 86 = .ok (.invokestatic 35, 3) := by decide +kernel
theorem dX7_isFor_89 : decode cX7_isFor 89 = .ok (.ireturn, 1) := by decide +kernel
theorem dX7_isPossible_0 : decode cX7_isPossible 0 = .ok (.iload_n 1, 1) := by decide +kernel
theorem dX7_isPossible_1 : decode cX7_isPossible 1 = .ok (.iconst 5, 1) := by decide +kernel
theorem dX7_isPossible_2 : decode cX7_isPossible 2 = .ok (.if_icmp .ne 22, 3) := by decide +kernel
theorem dX7_isPossible_5 : decode cX7_isPossible 5 = .ok (.iload_n 2, 1) := by decide +kernel
theorem dX7_isPossible_6 : decode cX7_isPossible 6 = .ok (.aload_n 0, 1) := by decide +kernel
theorem dX7_isPossible_7 : decode cX7_isPossible 7 = .ok (.getfield 7, 3) := by decide +kernel
theorem dX7_isPossible_10 : decode cX7_isPossible 10 = .ok (.bipush 6, 2) := by decide +kernel
theorem dX7_isPossible_12 : decode cX7_isPossible 12 = .ok (.iaload, 1) := by decide +kernel
theorem dX7_isPossible_13 : decode cX7_isPossible 13 = .ok (.if_icmp .gt 7, 3) := by decide +kernel
theorem dX7_isPossible_16 : decode cX7_isPossible 16 = .ok (.iconst 1, 1) := by decide +kernel
theorem dX7_isPossible_17 : decode cX7_isPossible 17 = .ok (.goto 28, 3) := by decide +kernel
theorem dX7_isPossible_20 : decode cX7_isPossible 20 = .ok (.iconst 0, 1) := by decide +kernel
theorem dX7_isPossible_21 : decode cX7_isPossible 21 = .ok (.goto 24, 3) := by decide +kernel
theorem dX7_isPossible_24 : decode cX7_isPossible 24 = .ok (.iload_n 1, 1) := by decide +kernel
theorem dX7_isPossible_25 : decode cX7_isPossible 25 = .ok (.bipush 6, 2) := by decide +kernel
theorem dX7_isPossible_27 : decode cX7_isPossible 27 = .ok (.if_icmp .ne 13, 3) := by decide +kernel
theorem dX7_isPossible_30 : decode cX7_isPossible 30 = .ok (.iload_n 2, 1) := by decide +kernel
theorem dX7_isPossible_31 : decode cX7_isPossible 31 = .ok (.aload_n 0, 1) := by decide +kernel
theorem dX7_isPossible_32 : decode cX7_isPossible 32 = .ok (.getfield 7, 3) := by decide +kernel
theorem dX7_isPossible_35 : decode cX7_isPossible 35 = .ok (.iconst 5, 1) := by decide +kernel
theorem dX7_isPossible_36 : decode cX7_isPossible 36 = .ok (.iaload, 1) := by decide +kernel
theorem dX7_isPossible_37 : decode cX7_isPossible 37 = .ok (.if_icmp .lt 7, 3) := by decide +kernel
theorem dX7_isPossible_40 : decode cX7_isPossible 40 = .ok (.iconst 1, 1) := by decide +kernel
theorem dX7_isPossible_41 : decode cX7_isPossible 41 = .ok (.goto 4, 3) := by decide +kernel
theorem dX7_isPossible_44 : decode cX7_isPossible 44 = .ok (.iconst 0, 1) := by decide +kernel
theorem dX7_isPossible_45 : decode cX7_isPossible 45 = .ok (.istore_n 3, 1) := by decide +kernel
theorem dX7_isPossible_46 : decode cX7_isPossible 46 = .ok (.iconst 0, 1) := by decide +kernel
theorem dX7_isPossible_47 : decode cX7_isPossible 47 = .ok (.istore 4, 2) := by decide +kernel
theorem dX7_isPossible_49 : decode cX7_isPossible 49 = .ok (.iload 4, 2) := by decide +kernel
theorem dX7_isPossible_51 : decode cX7_isPossible 51 = .ok (.bipush 24, 2) := by decide +kernel
theorem dX7_isPossible_53 : decode cX7_isPossible 53 = .ok (.if_icmp .ge 53, 3) := by decide +kernel
theorem dX7_isPossible_56 : decode cX7_isPossible 56 = .ok (.aload_n 0, 1) := by decide +kernel
theorem dX7_isPossible_57 : decode cX7_isPossible 57 = .ok (.getfield 7, 3) := by decide +kernel
theorem dX7_isPossible_60 : decode cX7_isPossible 60 = .ok (.bipush 58, 2) := by decide +kernel
theorem dX7_isPossible_62 : decode cX7_isPossible 62 = .ok (.iload 4, 2) := by decide +kernel
theorem dX7_isPossible_64 : decode cX7_isPossible 64 = .ok (.iadd, 1) := by decide +kernel
theorem dX7_isPossible_65 : decode cX7_isPossible 65 = .ok (.iaload, 1) := by decide +kernel
theorem dX7_isPossible_66 : decode cX7_isPossible 66 = .ok (.istore 5, 2) := by decide +kernel
theorem dX7_isPossible_68 : decode cX7_isPossible 68 = .ok (.iload_n 3, 1) := by decide +kernel
theorem dX7_isPossible_69 : decode cX7_isPossible 69 = .ok (.ifCond .eq 29, 3) := by decide +kernel
theorem dX7_isPossible_72 : decode cX7_isPossible 72 = .ok (.iload_n 1, 1) := by decide +kernel
theorem dX7_isPossible_73 : decode cX7_isPossible 73 = .ok (.ifCond .ne 10, 3) := by decide +kernel
theorem dX7_isPossible_76 : decode cX7_isPossible 76 = .ok (.iload 5, 2) := by decide +kernel
theorem dX7_isPossible_78 : decode cX7_isPossible 78 = .ok (.ineg, 1) := by decide +kernel
theorem dX7_isPossible_79 : decode cX7_isPossible 79 = .ok (.iload_n 2, 1) := by decide +kernel
theorem dX7_isPossible_80 : decode cX7_isPossible 80 = .ok (.if_icmp .gt 18, 3) := by decide +kernel
theorem dX7_isPossible_83 : decode cX7_isPossible 83 = .ok (.iload_n 1, 1) := by decide +kernel
theorem dX7_isPossible_84 : decode cX7_isPossible 84 = .ok (.iconst 1, 1) := by decide +kernel
theorem dX7_isPossible_85 : decode cX7_isPossible 85 = .ok (.if_icmp .ne 9, 3) := by decide +kernel
theorem dX7_isPossible_88 : decode cX7_isPossible 88 = .ok (.iload 5, 2) := by decide +kernel
theorem dX7_isPossible_90 : decode cX7_isPossible 90 = .ok (.iload_n 2, 1) := by decide +kernel
theorem dX7_isPossible_91 : decode cX7_isPossible 91 = .ok (.if_icmp .gt 7, 3) := by decide +kernel
theorem dX7_isPossible_94 : decode cX7_isPossible 94 = .ok (.iconst 1, 1) := by decide +kernel
theorem dX7_isPossible_95 : decode cX7_isPossible 95 = .ok (.goto 4, 3) := by decide +kernel
theorem dX7_isPossible_98 : decode cX7_isPossible 98 = .ok (.iconst 0, 1) := by decide +kernel
theorem dX7_isPossible_99 : decode cX7_isPossible 99 = .ok (.istore_n 3, 1) := by decide +kernel
theorem dX7_isPossible_100 : decode cX7_isPossible 100 = .ok (.iinc 4 1, 3) := by decide +kernel
theorem dX7_isPossible_103 : decode cX7_isPossible 103 = .ok (.goto (-54), 3) := by decide +kernel
theorem dX7_isPossible_106 : decode cX7_isPossible 106 = .ok (.iload_n 3, 1) := by decide +kernel
theorem dX7_isPossible_107 : decode cX7_isPossible 107 = .ok (.ireturn, 1) := by decide +kernel
theorem dX7_changes_0 : decode cX7_changes 0 = .ok (.aload_n 0, 1) := by decide +kernel
theorem dX7_changes_1 : decode cX7_changes 1 = .ok (.getfield 7, 3) := by decide +kernel
theorem dX7_changes_4 : decode cX7_changes 4 = .ok (.iload_n 1, 1) := by decide +kernel
theorem dX7_changes_5 : decode cX7_changes 5 = .ok (.iaload, 1) := by decide +kernel
theorem dX7_changes_6 : decode cX7_changes 6 = .ok (.istore_n 3, 1) := by decide +kernel
theorem dX7_changes_7 : decode cX7_changes 7 = .ok (.aload_n 0, 1) := by decide +kernel
theorem dX7_changes_8 : decode cX7_changes 8 = .ok (.getfield 7, 3) := by decide +kernel
theorem dX7_changes_11 : decode cX7_changes 11 = .ok (.iload_n 1, 1) := by decide +kernel
theorem dX7_changes_12 : decode cX7_changes 12 = .ok (.iload_n 2, 1) := by decide +kernel
theorem dX7_changes_13 : decode cX7_changes 13 = .ok (.iastore, 1) := by decide +kernel
theorem dX7_changes_14 : decode cX7_changes 14 = .ok (.iload_n 3, 1) := by decide +kernel
theorem dX7_changes_15 : decode cX7_changes 15 = .ok (.ireturn, 1) := by decide +kernel
set_option maxRecDepth 20000 in
theorem ggX7_set_X7_in : GoodIn wsX7_set wsX7_in := goodIn_r _ [4] (by decide +kernel) (by decide +kernel)
set_option maxRecDepth 20000 in
theorem gX7_set_X7_in : GoodIn wsX7_set (va_wsS RX7 35 yX7_in wsX7_in) := goodIn_app (goodIn_of _ (by decide +kernel)) ggX7_set_X7_in
set_option maxRecDepth 20000 in
theorem ggX7_set_X7_isFor : GoodIn wsX7_set wsX7_isFor := goodIn_r _ [7, 1, 2, 3, 4] (by decide +kernel) (by decide +kernel)
set_option maxRecDepth 20000 in
theorem gX7_set_X7_isFor : GoodIn wsX7_set (va_wsS RX7 98 yX7_isFor wsX7_isFor) := goodIn_app (goodIn_of _ (by decide +kernel)) ggX7_set_X7_isFor
set_option maxRecDepth 20000 in
theorem ggX7_set_X7_isPossible : GoodIn wsX7_set wsX7_isPossible := goodIn_r _ [11, 12, 26, 27, 28, 29, 30, 31, 32, 33, 34, 35, 36, 37, 38, 39, 40, 41, 42, 43] (by decide +kernel) (by decide +kernel)
set_option maxRecDepth 20000 in
theorem gX7_set_X7_isPossible : GoodIn wsX7_set (wsV RX7 101 RX7 yX7_isPossible wsX7_isPossible) := goodIn_app (goodIn_of _ (by decide +kernel)) ggX7_set_X7_isPossible
set_option maxRecDepth 20000 in
theorem ggX7_set_X7_records : GoodIn wsX7_set wsX7_records := goodIn_r _ [16, 17, 18, 12, 19, 20, 3, 21, 26, 27, 28, 29, 30, 31, 32, 33, 34, 35, 36, 37, 38, 39, 40, 41, 42, 43] (by decide +kernel) (by decide +kernel)
set_option maxRecDepth 20000 in
theorem gX7_set_X7_records : GoodIn wsX7_set (wsV RX7 51 RX7 yX7_records wsX7_records) := goodIn_app (goodIn_of _ (by decide +kernel)) ggX7_set_X7_records
set_option maxRecDepth 20000 in
theorem ggX7_set_X7_changes : GoodIn wsX7_set wsX7_changes := goodIn_r _ [25, 12, 26, 27, 28, 29, 30, 31, 32, 33, 34, 35, 36, 37, 38, 39, 40, 41, 42, 43] (by decide +kernel) (by decide +kernel)
set_option maxRecDepth 20000 in
theorem gX7_set_X7_changes : GoodIn wsX7_set (wsV RX7 104 RX7 yX7_changes wsX7_changes) := goodIn_app (goodIn_of _ (by decide +kernel)) ggX7_set_X7_changes
theorem dX7_set_0 : decode cX7_set 0 = .ok (.iload_n 1, 1) := by decide +kernel
theorem dX7_set_1 : decode cX7_set 1 = .ok (.iconst 0, 1) := by decide +kernel
theorem dX7_set_2 : decode cX7_set 2 = .ok (.bipush 9, 2) := by decide +kernel
theorem dX7_set_4 : decode cX7_set 4 = .ok (.invokestatic 35, 3) := by decide +kernel
theorem dX7_set_7 : decode cX7_set 7 = .ok (.ifCond .eq 11, 3) := by decide +kernel
theorem dX7_set_10 : decode cX7_set 10 = .ok (.iload_n 1, 1) := by decide +kernel
theorem dX7_set_11 : decode cX7_set 11 = .ok (.iload_n 2, 1) := by decide +kernel
theorem dX7_set_12 : decode cX7_set 12 = .ok (.invokestatic 98, 3) := by decide +kernel
theorem dX7_set_15 : decode cX7_set 15 = .ok (.ifCond .ne 6, 3) := by decide +kernel
theorem dX7_set_18 : decode cX7_set 18 = .ok (.bipush (-2), 2) := by decide +kernel
theorem dX7_set_20 : decode cX7_set 20 = .ok (.ireturn, 1) := by decide +kernel
theorem dX7_set_21 : decode cX7_set 21 = .ok (.aload_n 0, 1) := by decide +kernel
theorem dX7_set_22 : decode cX7_set 22 = .ok (.iload_n 1, 1) := by decide +kernel
theorem dX7_set_23 : decode cX7_set 23 = .ok (.iload_n 2, 1) := by decide +kernel
theorem dX7_set_24 : decode cX7_set 24 = .ok (.invokevirtual 101, 3) := by decide +kernel
theorem dX7_set_27 : decode cX7_set 27 = .ok (.ifCond .ne 6, 3) := by decide +kernel
theorem dX7_set_30 : decode cX7_set 30 = .ok (.bipush (-5), 2) := by decide +kernel
theorem dX7_set_32 : decode cX7_set 32 = .ok (.ireturn, 1) := by decide +kernel
theorem dX7_set_33 : decode cX7_set 33 = .ok (.aload_n 0, 1) := by decide +kernel
theorem dX7_set_34 : decode cX7_set 34 = .ok (.invokevirtual 51, 3) := by decide +kernel
theorem dX7_set_37 : decode cX7_set 37 = .ok (.aload_n 0, 1) := by decide +kernel
theorem dX7_set_38 : decode cX7_set 38 = .ok (.iload_n 1, 1) := by decide +kernel
theorem dX7_set_39 : decode cX7_set 39 = .ok (.iload_n 2, 1) := by decide +kernel
theorem dX7_set_40 : decode cX7_set 40 = .ok (.invokevirtual 104, 3) := by decide +kernel
theorem dX7_set_43 : decode cX7_set 43 = .ok (.ireturn, 1) := by decide +kernel
set_option maxRecDepth 20000 in
theorem ggX7_may_X7_isHour : GoodIn wsX7_may wsX7_isHour := goodIn_r _ [5, 6, 7, 4, 8] (by decide +kernel) (by decide +kernel)
set_option maxRecDepth 20000 in
theorem gX7_may_X7_isHour : GoodIn wsX7_may (va_wsS RX7 107 yX7_isHour wsX7_isHour) := goodIn_app (goodIn_of _ (by decide +kernel)) ggX7_may_X7_isHour
set_option maxRecDepth 20000 in
theorem ggX7_may_X7_in : GoodIn wsX7_may wsX7_in := goodIn_r _ [8] (by decide +kernel) (by decide +kernel)
set_option maxRecDepth 20000 in
theorem gX7_may_X7_in : GoodIn wsX7_may (va_wsS RX7 35 yX7_in wsX7_in) := goodIn_app (goodIn_of _ (by decide +kernel)) ggX7_may_X7_in
theorem dX7_may_0 : decode cX7_may 0 = .ok (.iload_n 2, 1) := by decide +kernel
theorem dX7_may_1 : decode cX7_may 1 = .ok (.invokestatic 107, 3) := by decide +kernel
theorem dX7_may_4 : decode cX7_may 4 = .ok (.ifCond .ne 5, 3) := by decide +kernel
theorem dX7_may_7 : decode cX7_may 7 = .ok (.iconst (-1), 1) := by decide +kernel
theorem dX7_may_8 : decode cX7_may 8 = .ok (.ireturn, 1) := by decide +kernel
theorem dX7_may_9 : decode cX7_may 9 = .ok (.iload_n 1, 1) := by decide +kernel
theorem dX7_may_10 : decode cX7_may 10 = .ok (.iconst 1, 1) := by decide +kernel
theorem dX7_may_11 : decode cX7_may 11 = .ok (.if_icmp .ne 14, 3) := by decide +kernel
theorem dX7_may_14 : decode cX7_may 14 = .ok (.iload_n 3, 1) := by decide +kernel
theorem dX7_may_15 : decode cX7_may 15 = .ok (.iconst 0, 1) := by decide +kernel
theorem dX7_may_16 : decode cX7_may 16 = .ok (.sipush 999, 3) := by decide +kernel
theorem dX7_may_19 : decode cX7_may 19 = .ok (.invokestatic 35, 3) := by decide +kernel
theorem dX7_may_22 : decode cX7_may 22 = .ok (.goto 35, 3) := by decide +kernel
theorem dX7_may_25 : decode cX7_may 25 = .ok (.iload_n 1, 1) := by decide +kernel
theorem dX7_may_26 : decode cX7_may 26 = .ok (.iconst 2, 1) := by decide +kernel
theorem dX7_may_27 : decode cX7_may 27 = .ok (.if_icmp .ne 13, 3) := by decide +kernel
theorem dX7_may_30 : decode cX7_may 30 = .ok (.iload_n 3, 1) := by decide +kernel
theorem dX7_may_31 : decode cX7_may 31 = .ok (.iconst 0, 1) := by decide +kernel
theorem dX7_may_32 : decode cX7_may 32 = .ok (.bipush 99, 2) := by decide +kernel
theorem dX7_may_34 : decode cX7_may 34 = .ok (.invokestatic 35, 3) := by decide +kernel
theorem dX7_may_37 : decode cX7_may 37 = .ok (.goto 20, 3) := by decide +kernel
theorem dX7_may_40 : decode cX7_may 40 = .ok (.iload_n 3, 1) := by decide +kernel
theorem dX7_may_41 : decode cX7_may 41 = .ok (.aload_n 0, 1) := by decide +kernel
theorem dX7_may_42 : decode cX7_may 42 = .ok (.getfield 7, 3) := by decide +kernel
theorem dX7_may_45 : decode cX7_may 45 = .ok (.iconst 0, 1) := by decide +kernel
theorem dX7_may_46 : decode cX7_may 46 = .ok (.iaload, 1) := by decide +kernel
theorem dX7_may_47 : decode cX7_may 47 = .ok (.ineg, 1) := by decide +kernel
theorem dX7_may_48 : decode cX7_may 48 = .ok (.aload_n 0, 1) := by decide +kernel
theorem dX7_may_49 : decode cX7_may 49 = .ok (.getfield 7, 3) := by decide +kernel
theorem dX7_may_52 : decode cX7_may 52 = .ok (.iconst 1, 1) := by decide +kernel
theorem dX7_may_53 : decode cX7_may 53 = .ok (.iaload, 1) := by decide +kernel
theorem dX7_may_54 : decode cX7_may 54 = .ok (.invokestatic 35, 3) := by decide +kernel
theorem dX7_may_57 : decode cX7_may 57 = .ok (.istore 4, 2) := by decide +kernel
theorem dX7_may_59 : decode cX7_may 59 = .ok (.iload 4, 2) := by decide +kernel
theorem dX7_may_61 : decode cX7_may 61 = .ok (.ifCond .eq 7, 3) := by decide +kernel
theorem dX7_may_64 : decode cX7_may 64 = .ok (.iconst 0, 1) := by decide +kernel
theorem dX7_may_65 : decode cX7_may 65 = .ok (.goto 5, 3) := by decide +kernel
theorem dX7_may_68 : decode cX7_may 68 = .ok (.bipush (-2), 2) := by decide +kernel
theorem dX7_may_70 : decode cX7_may 70 = .ok (.ireturn, 1) := by decide +kernel
theorem dX7_placeOf_0 : decode cX7_placeOf 0 = .ok (.iload_n 0, 1) := by decide +kernel
theorem dX7_placeOf_1 : decode cX7_placeOf 1 = .ok (.iconst 1, 1) := by decide +kernel
theorem dX7_placeOf_2 : decode cX7_placeOf 2 = .ok (.if_icmp .ne 8, 3) := by decide +kernel
theorem dX7_placeOf_5 : decode cX7_placeOf 5 = .ok (.bipush 10, 2) := by decide +kernel
theorem dX7_placeOf_7 : decode cX7_placeOf 7 = .ok (.goto 15, 3) := by decide +kernel
theorem dX7_placeOf_10 : decode cX7_placeOf 10 = .ok (.iload_n 0, 1) := by decide +kernel
theorem dX7_placeOf_11 : decode cX7_placeOf 11 = .ok (.iconst 2, 1) := by decide +kernel
theorem dX7_placeOf_12 : decode cX7_placeOf 12 = .ok (.if_icmp .ne 8, 3) := by decide +kernel
theorem dX7_placeOf_15 : decode cX7_placeOf 15 = .ok (.bipush 34, 2) := by decide +kernel
theorem dX7_placeOf_17 : decode cX7_placeOf 17 = .ok (.goto 5, 3) := by decide +kernel
theorem dX7_placeOf_20 : decode cX7_placeOf 20 = .ok (.bipush 58, 2) := by decide +kernel
theorem dX7_placeOf_22 : decode cX7_placeOf 22 = .ok (.ireturn, 1) := by decide +kernel
set_option maxRecDepth 20000 in
theorem ggX7_changesHour_X7_may : GoodIn wsX7_changesHour wsX7_may := goodIn_r _ [5, 6, 7, 8, 4, 9, 10, 11, 12, 29, 30, 31, 32, 33, 34, 35, 36, 37, 38, 39, 40, 41, 42, 43, 44, 45, 46] (by decide +kernel) (by decide +kernel)
set_option maxRecDepth 20000 in
theorem gX7_changesHour_X7_may : GoodIn wsX7_changesHour (wsV RX7 111 RX7 yX7_may wsX7_may) := goodIn_app (goodIn_of _ (by decide +kernel)) ggX7_changesHour_X7_may
set_option maxRecDepth 20000 in
theorem ggX7_changesHour_X7_records : GoodIn wsX7_changesHour wsX7_records := goodIn_r _ [16, 17, 18, 6, 19, 20, 4, 21, 29, 30, 31, 32, 33, 34, 35, 36, 37, 38, 39, 40, 41, 42, 43, 44, 45, 46] (by decide +kernel) (by decide +kernel)
set_option maxRecDepth 20000 in
theorem gX7_changesHour_X7_records : GoodIn wsX7_changesHour (wsV RX7 51 RX7 yX7_records wsX7_records) := goodIn_app (goodIn_of _ (by decide +kernel)) ggX7_changesHour_X7_records
set_option maxRecDepth 20000 in
theorem ggX7_changesHour_X7_placeOf : GoodIn wsX7_changesHour wsX7_placeOf := goodIn_r _ [24] (by decide +kernel) (by decide +kernel)
set_option maxRecDepth 20000 in
theorem gX7_changesHour_X7_placeOf : GoodIn wsX7_changesHour (va_wsS RX7 114 yX7_placeOf wsX7_placeOf) := goodIn_app (goodIn_of _ (by decide +kernel)) ggX7_changesHour_X7_placeOf
set_option maxRecDepth 20000 in
theorem ggX7_changesHour_X7_changes : GoodIn wsX7_changesHour wsX7_changes := goodIn_r _ [28, 6, 29, 30, 31, 32, 33, 34, 35, 36, 37, 38, 39, 40, 41, 42, 43, 44, 45, 46] (by decide +kernel) (by decide +kernel)
set_option maxRecDepth 20000 in
theorem gX7_changesHour_X7_changes : GoodIn wsX7_changesHour (wsV RX7 104 RX7 yX7_changes wsX7_changes) := goodIn_app (goodIn_of _ (by decide +kernel)) ggX7_changesHour_X7_changes
theorem dX7_changesHour_0 : decode cX7_changesHour 0 = .ok (.aload_n 0, 1) := by decide +kernel
theorem dX7_changesHour_1 : decode cX7_changesHour 1 = .ok (.iload_n 1, 1) := by decide +kernel
theorem dX7_changesHour_2 : decode cX7_changesHour 2 = .ok (.iload_n 2, 1) := by decide +kernel
theorem dX7_changesHour_3 : decode cX7_changesHour 3 = .ok (.iload_n 3, 1) := by decide +kernel
theorem dX7_changesHour_4 : decode cX7_changesHour 4 = .ok (.invokevirtual 111, 3) := by decide +kernel
theorem dX7_changesHour_7 : decode cX7_changesHour 7 = .ok (.istore 4, 2) := by decide +kernel
theorem dX7_changesHour_9 : decode cX7_changesHour 9 = .ok (.iload 4, 2) := by decide +kernel
theorem dX7_changesHour_11 : decode cX7_changesHour 11 = .ok (.ifCond .eq 6, 3) := by decide +kernel
theorem dX7_changesHour_14 : decode cX7_changesHour 14 = .ok (.iload 4, 2) := by decide +kernel
theorem dX7_changesHour_16 : decode cX7_changesHour 16 = .ok (.ireturn, 1) := by decide +kernel
theorem dX7_changesHour_17 : decode cX7_changesHour 17 = .ok (.aload_n 0, 1) := by decide +kernel
theorem dX7_changesHour_18 : decode cX7_changesHour 18 = .ok (.invokevirtual 51, 3) := by decide +kernel
theorem dX7_changesHour_21 : decode cX7_changesHour 21 = .ok (.aload_n 0, 1) := by decide +kernel
theorem dX7_changesHour_22 : decode cX7_changesHour 22 = .ok (.iload_n 1, 1) := by decide +kernel
theorem dX7_changesHour_23 : decode cX7_changesHour 23 = .ok (.invokestatic 114, 3) := by decide +kernel
theorem dX7_changesHour_26 : decode cX7_changesHour 26 = .ok (.iload_n 2, 1) := by decide +kernel
theorem dX7_changesHour_27 : decode cX7_changesHour 27 = .ok (.iadd, 1) := by decide +kernel
theorem dX7_changesHour_28 : decode cX7_changesHour 28 = .ok (.iload_n 3, 1) := by decide +kernel
theorem dX7_changesHour_29 : decode cX7_changesHour 29 = .ok (.invokevirtual 104, 3) := by decide +kernel
theorem dX7_changesHour_32 : decode cX7_changesHour 32 = .ok (.ireturn, 1) := by decide +kernel
set_option maxRecDepth 20000 in
theorem ggX7_price_X7_changesHour : GoodIn wsX7_price wsX7_changesHour := goodIn_r _ [5, 6, 7, 8, 4, 9, 10, 11, 12, 13, 14, 15, 16, 17, 18, 19, 20, 21, 22, 23, 24, 25, 26, 27, 28, 29, 30, 31, 32, 33, 34, 35, 36, 37, 38, 39, 40, 41, 42, 43, 44, 45, 46, 47, 48, 49, 50] (by decide +kernel) (by decide +kernel)
set_option maxRecDepth 20000 in
theorem gX7_price_X7_changesHour : GoodIn wsX7_price (wsV RX7 117 RX7 yX7_changesHour wsX7_changesHour) := goodIn_app (goodIn_of _ (by decide +kernel)) ggX7_price_X7_changesHour
theorem dX7_price_0 : decode cX7_price 0 = .ok (.aload_n 0, 1) := by decide +kernel
theorem dX7_price_1 : decode cX7_price 1 = .ok (.iconst 1, 1) := by decide +kernel
theorem dX7_price_2 : decode cX7_price 2 = .ok (.iload_n 1, 1) := by decide +kernel
theorem dX7_price_3 : decode cX7_price 3 = .ok (.iload_n 2, 1) := by decide +kernel
theorem dX7_price_4 : decode cX7_price 4 = .ok (.invokevirtual 117, 3) := by decide +kernel
theorem dX7_price_7 : decode cX7_price 7 = .ok (.ireturn, 1) := by decide +kernel
set_option maxRecDepth 20000 in
theorem ggX7_inflow_X7_changesHour : GoodIn wsX7_inflow wsX7_changesHour := goodIn_r _ [5, 6, 7, 8, 4, 9, 10, 11, 12, 13, 14, 15, 16, 17, 18, 19, 20, 21, 22, 23, 24, 25, 26, 27, 28, 29, 30, 31, 32, 33, 34, 35, 36, 37, 38, 39, 40, 41, 42, 43, 44, 45, 46, 47, 48, 49, 50] (by decide +kernel) (by decide +kernel)
set_option maxRecDepth 20000 in
theorem gX7_inflow_X7_changesHour : GoodIn wsX7_inflow (wsV RX7 117 RX7 yX7_changesHour wsX7_changesHour) := goodIn_app (goodIn_of _ (by decide +kernel)) ggX7_inflow_X7_changesHour
theorem dX7_inflow_0 : decode cX7_inflow 0 = .ok (.aload_n 0, 1) := by decide +kernel
theorem dX7_inflow_1 : decode cX7_inflow 1 = .ok (.iconst 2, 1) := by decide +kernel
theorem dX7_inflow_2 : decode cX7_inflow 2 = .ok (.iload_n 1, 1) := by decide +kernel
theorem dX7_inflow_3 : decode cX7_inflow 3 = .ok (.iload_n 2, 1) := by decide +kernel
theorem dX7_inflow_4 : decode cX7_inflow 4 = .ok (.invokevirtual 117, 3) := by decide +kernel
theorem dX7_inflow_7 : decode cX7_inflow 7 = .ok (.ireturn, 1) := by decide +kernel
set_option maxRecDepth 20000 in
theorem ggX7_plan_X7_may : GoodIn wsX7_plan wsX7_may := goodIn_r _ [5, 6, 7, 8, 4, 9, 10, 11, 12, 26, 27, 28, 29, 30, 31, 32, 33, 34, 35, 36, 37, 38, 39, 40, 41, 42, 43] (by decide +kernel) (by decide +kernel)
set_option maxRecDepth 20000 in
theorem gX7_plan_X7_may : GoodIn wsX7_plan (wsV RX7 111 RX7 yX7_may wsX7_may) := goodIn_app (goodIn_of _ (by decide +kernel)) ggX7_plan_X7_may
set_option maxRecDepth 20000 in
theorem ggX7_plan_X7_records : GoodIn wsX7_plan wsX7_records := goodIn_r _ [16, 17, 18, 6, 19, 20, 4, 21, 26, 27, 28, 29, 30, 31, 32, 33, 34, 35, 36, 37, 38, 39, 40, 41, 42, 43] (by decide +kernel) (by decide +kernel)
set_option maxRecDepth 20000 in
theorem gX7_plan_X7_records : GoodIn wsX7_plan (wsV RX7 51 RX7 yX7_records wsX7_records) := goodIn_app (goodIn_of _ (by decide +kernel)) ggX7_plan_X7_records
set_option maxRecDepth 20000 in
theorem ggX7_plan_X7_changes : GoodIn wsX7_plan wsX7_changes := goodIn_r _ [25, 6, 26, 27, 28, 29, 30, 31, 32, 33, 34, 35, 36, 37, 38, 39, 40, 41, 42, 43] (by decide +kernel) (by decide +kernel)
set_option maxRecDepth 20000 in
theorem gX7_plan_X7_changes : GoodIn wsX7_plan (wsV RX7 104 RX7 yX7_changes wsX7_changes) := goodIn_app (goodIn_of _ (by decide +kernel)) ggX7_plan_X7_changes
theorem dX7_plan_0 : decode cX7_plan 0 = .ok (.aload_n 0, 1) := by decide +kernel
theorem dX7_plan_1 : decode cX7_plan 1 = .ok (.iconst 3, 1) := by decide +kernel
theorem dX7_plan_2 : decode cX7_plan 2 = .ok (.iload_n 1, 1) := by decide +kernel
theorem dX7_plan_3 : decode cX7_plan 3 = .ok (.iload_n 2, 1) := by decide +kernel
theorem dX7_plan_4 : decode cX7_plan 4 = .ok (.invokevirtual 111, 3) := by decide +kernel
theorem dX7_plan_7 : decode cX7_plan 7 = .ok (.istore_n 3, 1) := by decide +kernel
theorem dX7_plan_8 : decode cX7_plan 8 = .ok (.iload_n 3, 1) := by decide +kernel
theorem dX7_plan_9 : decode cX7_plan 9 = .ok (.ifCond .eq 5, 3) := by decide +kernel
theorem dX7_plan_12 : decode cX7_plan 12 = .ok (.iload_n 3, 1) := by decide +kernel
theorem dX7_plan_13 : decode cX7_plan 13 = .ok (.ireturn, 1) := by decide +kernel
theorem dX7_plan_14 : decode cX7_plan 14 = .ok (.aload_n 0, 1) := by decide +kernel
theorem dX7_plan_15 : decode cX7_plan 15 = .ok (.invokevirtual 51, 3) := by decide +kernel
theorem dX7_plan_18 : decode cX7_plan 18 = .ok (.aload_n 0, 1) := by decide +kernel
theorem dX7_plan_19 : decode cX7_plan 19 = .ok (.bipush 58, 2) := by decide +kernel
theorem dX7_plan_21 : decode cX7_plan 21 = .ok (.iload_n 1, 1) := by decide +kernel
theorem dX7_plan_22 : decode cX7_plan 22 = .ok (.iadd, 1) := by decide +kernel
theorem dX7_plan_23 : decode cX7_plan 23 = .ok (.iload_n 2, 1) := by decide +kernel
theorem dX7_plan_24 : decode cX7_plan 24 = .ok (.invokevirtual 104, 3) := by decide +kernel
theorem dX7_plan_27 : decode cX7_plan 27 = .ok (.bipush 100, 2) := by decide +kernel
theorem dX7_plan_29 : decode cX7_plan 29 = .ok (.iadd, 1) := by decide +kernel
theorem dX7_plan_30 : decode cX7_plan 30 = .ok (.ireturn, 1) := by decide +kernel
set_option maxRecDepth 20000 in
theorem ggX7_mayContract_X7_isHour : GoodIn wsX7_mayContract wsX7_isHour := goodIn_r _ [5, 6, 7, 4, 8] (by decide +kernel) (by decide +kernel)
set_option maxRecDepth 20000 in
theorem gX7_mayContract_X7_isHour : GoodIn wsX7_mayContract (va_wsS RX7 107 yX7_isHour wsX7_isHour) := goodIn_app (goodIn_of _ (by decide +kernel)) ggX7_mayContract_X7_isHour
set_option maxRecDepth 20000 in
theorem ggX7_mayContract_X7_in : GoodIn wsX7_mayContract wsX7_in := goodIn_r _ [8] (by decide +kernel) (by decide +kernel)
set_option maxRecDepth 20000 in
theorem gX7_mayContract_X7_in : GoodIn wsX7_mayContract (va_wsS RX7 35 yX7_in wsX7_in) := goodIn_app (goodIn_of _ (by decide +kernel)) ggX7_mayContract_X7_in
theorem dX7_mayContract_0 : decode cX7_mayContract 0 = .ok (.iload_n 1, 1) := by decide +kernel
theorem dX7_mayContract_1 : decode cX7_mayContract 1 = .ok (.invokestatic 107, 3) := by decide +kernel
theorem dX7_mayContract_4 : decode cX7_mayContract 4 = .ok (.ifCond .ne 5, 3) := by decide +kernel
theorem dX7_mayContract_7 : decode cX7_mayContract 7 = .ok (.iconst (-1), 1) := by decide +kernel
theorem dX7_mayContract_8 : decode cX7_mayContract 8 = .ok (.ireturn, 1) := by decide +kernel
theorem dX7_mayContract_9 : decode cX7_mayContract 9 = .ok (.iload_n 2, 1) := by decide +kernel
theorem dX7_mayContract_10 : decode cX7_mayContract 10 = .ok (.iconst 1, 1) := by decide +kernel
theorem dX7_mayContract_11 : decode cX7_mayContract 11 = .ok (.bipush 30, 2) := by decide +kernel
theorem dX7_mayContract_13 : decode cX7_mayContract 13 = .ok (.invokestatic 35, 3) := by decide +kernel
theorem dX7_mayContract_16 : decode cX7_mayContract 16 = .ok (.ifCond .eq 26, 3) := by decide +kernel
theorem dX7_mayContract_19 : decode cX7_mayContract 19 = .ok (.iload_n 3, 1) := by decide +kernel
theorem dX7_mayContract_20 : decode cX7_mayContract 20 = .ok (.iconst 0, 1) := by decide +kernel
theorem dX7_mayContract_21 : decode cX7_mayContract 21 = .ok (.sipush 9999, 3) := by decide +kernel
theorem dX7_mayContract_24 : decode cX7_mayContract 24 = .ok (.invokestatic 35, 3) := by decide +kernel
