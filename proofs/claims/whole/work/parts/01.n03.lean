theorem dX2_changeInflow_36 : decode cX2_changeInflow 36 = .ok (.iadd, 1) := by decide +kernel
theorem dX2_changeInflow_37 : decode cX2_changeInflow 37 = .ok (.iload_n 2, 1) := by decide +kernel
theorem dX2_changeInflow_38 : decode cX2_changeInflow 38 = .ok (.invokevirtual 41, 3) := by decide +kernel
theorem dX2_changeInflow_41 : decode cX2_changeInflow 41 = .ok (.ireturn, 1) := by decide +kernel
set_option maxRecDepth 20000 in
theorem ggX2_changePlan_X6_isHour : GoodIn wsX2_changePlan wsX6_isHour := goodIn_r _ [4] (by decide +kernel) (by decide +kernel)
set_option maxRecDepth 20000 in
theorem gX2_changePlan_X6_isHour_n51 : GoodIn wsX2_changePlan (wsX6_isHour) := ggX2_changePlan_X6_isHour
set_option maxRecDepth 20000 in
theorem ggX2_changePlan_X2_replaced : GoodIn wsX2_changePlan wsX2_replaced := goodIn_r _ [9, 1, 10, 11] (by decide +kernel) (by decide +kernel)
set_option maxRecDepth 20000 in
theorem gX2_changePlan_X2_replaced : GoodIn wsX2_changePlan (wsV RX2 41 RX2 yX2_replaced wsX2_replaced) := goodIn_app (goodIn_of _ (by decide +kernel)) ggX2_changePlan_X2_replaced
theorem dX2_changePlan_0 : decode cX2_changePlan 0 = .ok (.iload_n 1, 1) := by decide +kernel
theorem dX2_changePlan_1 : decode cX2_changePlan 1 = .ok (.invokestatic 51, 3) := by decide +kernel
theorem dX2_changePlan_4 : decode cX2_changePlan 4 = .ok (.ifCond .ne 5, 3) := by decide +kernel
theorem dX2_changePlan_7 : decode cX2_changePlan 7 = .ok (.iconst (-1), 1) := by decide +kernel
theorem dX2_changePlan_8 : decode cX2_changePlan 8 = .ok (.ireturn, 1) := by decide +kernel
theorem dX2_changePlan_9 : decode cX2_changePlan 9 = .ok (.iload_n 2, 1) := by decide +kernel
theorem dX2_changePlan_10 : decode cX2_changePlan 10 = .ok (.aload_n 0, 1) := by decide +kernel
theorem dX2_changePlan_11 : decode cX2_changePlan 11 = .ok (.getfield 11, 3) := by decide +kernel
theorem dX2_changePlan_14 : decode cX2_changePlan 14 = .ok (.iconst 0, 1) := by decide +kernel
theorem dX2_changePlan_15 : decode cX2_changePlan 15 = .ok (.iaload, 1) := by decide +kernel
theorem dX2_changePlan_16 : decode cX2_changePlan 16 = .ok (.ineg, 1) := by decide +kernel
theorem dX2_changePlan_17 : decode cX2_changePlan 17 = .ok (.if_icmp .lt 13, 3) := by decide +kernel
theorem dX2_changePlan_20 : decode cX2_changePlan 20 = .ok (.iload_n 2, 1) := by decide +kernel
theorem dX2_changePlan_21 : decode cX2_changePlan 21 = .ok (.aload_n 0, 1) := by decide +kernel
theorem dX2_changePlan_22 : decode cX2_changePlan 22 = .ok (.getfield 11, 3) := by decide +kernel
theorem dX2_changePlan_25 : decode cX2_changePlan 25 = .ok (.iconst 1, 1) := by decide +kernel
theorem dX2_changePlan_26 : decode cX2_changePlan 26 = .ok (.iaload, 1) := by decide +kernel
theorem dX2_changePlan_27 : decode cX2_changePlan 27 = .ok (.if_icmp .le 6, 3) := by decide +kernel
theorem dX2_changePlan_30 : decode cX2_changePlan 30 = .ok (.bipush (-2), 2) := by decide +kernel
theorem dX2_changePlan_32 : decode cX2_changePlan 32 = .ok (.ireturn, 1) := by decide +kernel
theorem dX2_changePlan_33 : decode cX2_changePlan 33 = .ok (.aload_n 0, 1) := by decide +kernel
theorem dX2_changePlan_34 : decode cX2_changePlan 34 = .ok (.bipush 58, 2) := by decide +kernel
theorem dX2_changePlan_36 : decode cX2_changePlan 36 = .ok (.iload_n 1, 1) := by decide +kernel
theorem dX2_changePlan_37 : decode cX2_changePlan 37 = .ok (.iadd, 1) := by decide +kernel
theorem dX2_changePlan_38 : decode cX2_changePlan 38 = .ok (.iload_n 2, 1) := by decide +kernel
theorem dX2_changePlan_39 : decode cX2_changePlan 39 = .ok (.invokevirtual 41, 3) := by decide +kernel
theorem dX2_changePlan_42 : decode cX2_changePlan 42 = .ok (.bipush 100, 2) := by decide +kernel
theorem dX2_changePlan_44 : decode cX2_changePlan 44 = .ok (.iadd, 1) := by decide +kernel
theorem dX2_changePlan_45 : decode cX2_changePlan 45 = .ok (.ireturn, 1) := by decide +kernel
theorem dX2_replaced_0 : decode cX2_replaced 0 = .ok (.iload_n 1, 1) := by decide +kernel
theorem dX2_replaced_1 : decode cX2_replaced 1 = .ok (.ifCond .lt 9, 3) := by decide +kernel
theorem dX2_replaced_4 : decode cX2_replaced 4 = .ok (.iload_n 1, 1) := by decide +kernel
theorem dX2_replaced_5 : decode cX2_replaced 5 = .ok (.bipush 115, 2) := by decide +kernel
theorem dX2_replaced_7 : decode cX2_replaced 7 = .ok (.if_icmp .lt 6, 3) := by decide +kernel
theorem dX2_replaced_10 : decode cX2_replaced 10 = .ok (.bipush (-2), 2) := by decide +kernel
theorem dX2_replaced_12 : decode cX2_replaced 12 = .ok (.ireturn, 1) := by decide +kernel
theorem dX2_replaced_13 : decode cX2_replaced 13 = .ok (.aload_n 0, 1) := by decide +kernel
theorem dX2_replaced_14 : decode cX2_replaced 14 = .ok (.getfield 11, 3) := by decide +kernel
theorem dX2_replaced_17 : decode cX2_replaced 17 = .ok (.iload_n 1, 1) := by decide +kernel
theorem dX2_replaced_18 : decode cX2_replaced 18 = .ok (.iaload, 1) := by decide +kernel
theorem dX2_replaced_19 : decode cX2_replaced 19 = .ok (.istore_n 3, 1) := by decide +kernel
theorem dX2_replaced_20 : decode cX2_replaced 20 = .ok (.aload_n 0, 1) := by decide +kernel
theorem dX2_replaced_21 : decode cX2_replaced 21 = .ok (.getfield 11, 3) := by decide +kernel
theorem dX2_replaced_24 : decode cX2_replaced 24 = .ok (.iload_n 1, 1) := by decide +kernel
theorem dX2_replaced_25 : decode cX2_replaced 25 = .ok (.iload_n 2, 1) := by decide +kernel
theorem dX2_replaced_26 : decode cX2_replaced 26 = .ok (.iastore, 1) := by decide +kernel
theorem dX2_replaced_27 : decode cX2_replaced 27 = .ok (.iload_n 3, 1) := by decide +kernel
theorem dX2_replaced_28 : decode cX2_replaced 28 = .ok (.ireturn, 1) := by decide +kernel
set_option maxRecDepth 20000 in
theorem ggX2_addContract_X6_isHour : GoodIn wsX2_addContract wsX6_isHour := goodIn_r _ [5] (by decide +kernel) (by decide +kernel)
set_option maxRecDepth 20000 in
theorem gX2_addContract_X6_isHour_n51 : GoodIn wsX2_addContract (wsX6_isHour) := ggX2_addContract_X6_isHour
set_option maxRecDepth 20000 in
theorem ggX2_addContract_X2_contracts : GoodIn wsX2_addContract wsX2_contracts := goodIn_r _ [10, 1, 15, 16] (by decide +kernel) (by decide +kernel)
set_option maxRecDepth 20000 in
theorem gX2_addContract_X2_contracts : GoodIn wsX2_addContract (wsV RX2 26 RX2 yX2_contracts wsX2_contracts) := goodIn_app (goodIn_of _ (by decide +kernel)) ggX2_addContract_X2_contracts
set_option maxRecDepth 20000 in
theorem ggX2_addContract_X2_replaced : GoodIn wsX2_addContract wsX2_replaced := goodIn_r _ [14, 1, 15, 16] (by decide +kernel) (by decide +kernel)
set_option maxRecDepth 20000 in
theorem gX2_addContract_X2_replaced : GoodIn wsX2_addContract (wsV RX2 41 RX2 yX2_replaced wsX2_replaced) := goodIn_app (goodIn_of _ (by decide +kernel)) ggX2_addContract_X2_replaced
theorem dX2_addContract_0 : decode cX2_addContract 0 = .ok (.iload_n 1, 1) := by decide +kernel
theorem dX2_addContract_1 : decode cX2_addContract 1 = .ok (.invokestatic 51, 3) := by decide +kernel
theorem dX2_addContract_4 : decode cX2_addContract 4 = .ok (.ifCond .ne 5, 3) := by decide +kernel
theorem dX2_addContract_7 : decode cX2_addContract 7 = .ok (.iconst (-1), 1) := by decide +kernel
theorem dX2_addContract_8 : decode cX2_addContract 8 = .ok (.ireturn, 1) := by decide +kernel
theorem dX2_addContract_9 : decode cX2_addContract 9 = .ok (.iload_n 2, 1) := by decide +kernel
theorem dX2_addContract_10 : decode cX2_addContract 10 = .ok (.iconst 1, 1) := by decide +kernel
theorem dX2_addContract_11 : decode cX2_addContract 11 = .ok (.if_icmp .lt 33, 3) := by decide +kernel
theorem dX2_addContract_14 : decode cX2_addContract 14 = .ok (.iload_n 2, 1) := by decide +kernel
theorem dX2_addContract_15 : decode cX2_addContract 15 = .ok (.bipush 30, 2) := by decide +kernel
theorem dX2_addContract_17 : decode cX2_addContract 17 = .ok (.if_icmp .gt 27, 3) := by decide +kernel
theorem dX2_addContract_20 : decode cX2_addContract 20 = .ok (.iload_n 3, 1) := by decide +kernel
theorem dX2_addContract_21 : decode cX2_addContract 21 = .ok (.ifCond .lt 23, 3) := by decide +kernel
theorem dX2_addContract_24 : decode cX2_addContract 24 = .ok (.iload_n 3, 1) := by decide +kernel
theorem dX2_addContract_25 : decode cX2_addContract 25 = .ok (.sipush 9999, 3) := by decide +kernel
theorem dX2_addContract_28 : decode cX2_addContract 28 = .ok (.if_icmp .gt 16, 3) := by decide +kernel
theorem dX2_addContract_31 : decode cX2_addContract 31 = .ok (.iload 4, 2) := by decide +kernel
theorem dX2_addContract_33 : decode cX2_addContract 33 = .ok (.ifCond .lt 11, 3) := by decide +kernel
theorem dX2_addContract_36 : decode cX2_addContract 36 = .ok (.iload 4, 2) := by decide +kernel
theorem dX2_addContract_38 : decode cX2_addContract 38 = .ok (.sipush 9999, 3) := by decide +kernel
theorem dX2_addContract_41 : decode cX2_addContract 41 = .ok (.if_icmp .le 6, 3) := by decide +kernel
theorem dX2_addContract_44 : decode cX2_addContract 44 = .ok (.bipush (-2), 2) := by decide +kernel
theorem dX2_addContract_46 : decode cX2_addContract 46 = .ok (.ireturn, 1) := by decide +kernel
theorem dX2_addContract_47 : decode cX2_addContract 47 = .ok (.aload_n 0, 1) := by decide +kernel
theorem dX2_addContract_48 : decode cX2_addContract 48 = .ok (.invokevirtual 26, 3) := by decide +kernel
theorem dX2_addContract_51 : decode cX2_addContract 51 = .ok (.istore 5, 2) := by decide +kernel
theorem dX2_addContract_53 : decode cX2_addContract 53 = .ok (.iload 5, 2) := by decide +kernel
theorem dX2_addContract_55 : decode cX2_addContract 55 = .ok (.bipush 8, 2) := by decide +kernel
theorem dX2_addContract_57 : decode cX2_addContract 57 = .ok (.if_icmp .lt 6, 3) := by decide +kernel
theorem dX2_addContract_60 : decode cX2_addContract 60 = .ok (.bipush (-4), 2) := by decide +kernel
theorem dX2_addContract_62 : decode cX2_addContract 62 = .ok (.ireturn, 1) := by decide +kernel
theorem dX2_addContract_63 : decode cX2_addContract 63 = .ok (.bipush 82, 2) := by decide +kernel
theorem dX2_addContract_65 : decode cX2_addContract 65 = .ok (.iload 5, 2) := by decide +kernel
theorem dX2_addContract_67 : decode cX2_addContract 67 = .ok (.iconst 4, 1) := by decide +kernel
theorem dX2_addContract_68 : decode cX2_addContract 68 = .ok (.imul, 1) := by decide +kernel
theorem dX2_addContract_69 : decode cX2_addContract 69 = .ok (.iadd, 1) := by decide +kernel
theorem dX2_addContract_70 : decode cX2_addContract 70 = .ok (.istore 6, 2) := by decide +kernel
theorem dX2_addContract_72 : decode cX2_addContract 72 = .ok (.aload_n 0, 1) := by decide +kernel
theorem dX2_addContract_73 : decode cX2_addContract 73 = .ok (.iload 6, 2) := by decide +kernel
theorem dX2_addContract_75 : decode cX2_addContract 75 = .ok (.iconst 0, 1) := by decide +kernel
theorem dX2_addContract_76 : decode cX2_addContract 76 = .ok (.iadd, 1) := by decide +kernel
theorem dX2_addContract_77 : decode cX2_addContract 77 = .ok (.iload_n 1, 1) := by decide +kernel
theorem dX2_addContract_78 : decode cX2_addContract 78 = .ok (.invokevirtual 41, 3) := by decide +kernel
theorem dX2_addContract_81 : decode cX2_addContract 81 = .ok (.pop, 1) := by decide +kernel
theorem dX2_addContract_82 : decode cX2_addContract 82 = .ok (.aload_n 0, 1) := by decide +kernel
theorem dX2_addContract_83 : decode cX2_addContract 83 = .ok (.iload 6, 2) := by decide +kernel
theorem dX2_addContract_85 : decode cX2_addContract 85 = .ok (.iconst 1, 1) := by decide +kernel
theorem dX2_addContract_86 : decode cX2_addContract 86 = .ok (.iadd, 1) := by decide +kernel
theorem dX2_addContract_87 : decode cX2_addContract 87 = .ok (.iload_n 2, 1) := by decide +kernel
theorem dX2_addContract_88 : decode cX2_addContract 88 = .ok (.invokevirtual 41, 3) := by decide +kernel
theorem dX2_addContract_91 : decode cX2_addContract 91 = .ok (.pop, 1) := by decide +kernel
theorem dX2_addContract_92 : decode cX2_addContract 92 = .ok (.aload_n 0, 1) := by decide +kernel
theorem dX2_addContract_93 : decode cX2_addContract 93 = .ok (.iload 6, 2) := by decide +kernel
theorem dX2_addContract_95 : decode cX2_addContract 95 = .ok (.iconst 2, 1) := by decide +kernel
theorem dX2_addContract_96 : decode cX2_addContract 96 = .ok (.iadd, 1) := by decide +kernel
theorem dX2_addContract_97 : decode cX2_addContract 97 = .ok (.iload_n 3, 1) := by decide +kernel
theorem dX2_addContract_98 : decode cX2_addContract 98 = .ok (.invokevirtual 41, 3) := by decide +kernel
theorem dX2_addContract_101 : decode cX2_addContract 101 = .ok (.pop, 1) := by decide +kernel
theorem dX2_addContract_102 : decode cX2_addContract 102 = .ok (.aload_n 0, 1) := by decide +kernel
theorem dX2_addContract_103 : decode cX2_addContract 103 = .ok (.iload 6, 2) := by decide +kernel
theorem dX2_addContract_105 : decode cX2_addContract 105 = .ok (.iconst 3, 1) := by decide +kernel
theorem dX2_addContract_106 : decode cX2_addContract 106 = .ok (.iadd, 1) := by decide +kernel
theorem dX2_addContract_107 : decode cX2_addContract 107 = .ok (.iload 4, 2) := by decide +kernel
theorem dX2_addContract_109 : decode cX2_addContract 109 = .ok (.invokevirtual 41, 3) := by decide +kernel
theorem dX2_addContract_112 : decode cX2_addContract 112 = .ok (.pop, 1) := by decide +kernel
theorem dX2_addContract_113 : decode cX2_addContract 113 = .ok (.aload_n 0, 1) := by decide +kernel
theorem dX2_addContract_114 : decode cX2_addContract 114 = .ok (.getfield 11, 3) := by decide +kernel
theorem dX2_addContract_117 : decode cX2_addContract 117 = .ok (.bipush 114, 2) := by decide +kernel
theorem dX2_addContract_119 : decode cX2_addContract 119 = .ok (.iload 5, 2) := by decide +kernel
theorem dX2_addContract_121 : decode cX2_addContract 121 = .ok (.iconst 1, 1) := by decide +kernel
theorem dX2_addContract_122 : decode cX2_addContract 122 = .ok (.iadd, 1) := by decide +kernel
theorem dX2_addContract_123 : decode cX2_addContract 123 = .ok (.iastore, 1) := by decide +kernel
theorem dX2_addContract_124 : decode cX2_addContract 124 = .ok (.aload_n 0, 1) := by decide +kernel
theorem dX2_addContract_125 : decode cX2_addContract 125 = .ok (.dup, 1) := by decide +kernel
theorem dX2_addContract_126 : decode cX2_addContract 126 = .ok (.getfield 15, 3) := by decide +kernel
theorem dX2_addContract_129 : decode cX2_addContract 129 = .ok (.iconst 1, 1) := by decide +kernel
theorem dX2_addContract_130 : decode cX2_addContract 130 = .ok (.iadd, 1) := by decide +kernel
theorem dX2_addContract_131 : decode cX2_addContract 131 = .ok (.putfield 15, 3) := by decide +kernel
theorem dX2_addContract_134 : decode cX2_addContract 134 = .ok (.iload 5, 2) := by decide +kernel
theorem dX2_addContract_136 : decode cX2_addContract 136 = .ok (.ireturn, 1) := by decide +kernel
set_option maxRecDepth 20000 in
theorem ggX2_removeContract_X2_isContract : GoodIn wsX2_removeContract wsX2_isContract := goodIn_r _ [7, 8, 9, 10, 6, 11, 1, 12, 13] (by decide +kernel) (by decide +kernel)
set_option maxRecDepth 20000 in
theorem gX2_removeContract_X2_isContract : GoodIn wsX2_removeContract (wsV RX2 55 RX2 yX2_isContract wsX2_isContract) := goodIn_app (goodIn_of _ (by decide +kernel)) ggX2_removeContract_X2_isContract
set_option maxRecDepth 20000 in
theorem ggX2_removeContract_X2_contracts : GoodIn wsX2_removeContract wsX2_contracts := goodIn_r _ [11, 1, 12, 13] (by decide +kernel) (by decide +kernel)
set_option maxRecDepth 20000 in
theorem gX2_removeContract_X2_contracts : GoodIn wsX2_removeContract (wsV RX2 26 RX2 yX2_contracts wsX2_contracts) := goodIn_app (goodIn_of _ (by decide +kernel)) ggX2_removeContract_X2_contracts
theorem dX2_removeContract_0 : decode cX2_removeContract 0 = .ok (.aload_n 0, 1) := by decide +kernel
theorem dX2_removeContract_1 : decode cX2_removeContract 1 = .ok (.iload_n 1, 1) := by decide +kernel
theorem dX2_removeContract_2 : decode cX2_removeContract 2 = .ok (.invokevirtual 55, 3) := by decide +kernel
theorem dX2_removeContract_5 : decode cX2_removeContract 5 = .ok (.ifCond .ne 5, 3) := by decide +kernel
theorem dX2_removeContract_8 : decode cX2_removeContract 8 = .ok (.iconst (-1), 1) := by decide +kernel
theorem dX2_removeContract_9 : decode cX2_removeContract 9 = .ok (.ireturn, 1) := by decide +kernel
theorem dX2_removeContract_10 : decode cX2_removeContract 10 = .ok (.bipush 82, 2) := by decide +kernel
theorem dX2_removeContract_12 : decode cX2_removeContract 12 = .ok (.iload_n 1, 1) := by decide +kernel
theorem dX2_removeContract_13 : decode cX2_removeContract 13 = .ok (.iconst 4, 1) := by decide +kernel
theorem dX2_removeContract_14 : decode cX2_removeContract 14 = .ok (.imul, 1) := by decide +kernel
theorem dX2_removeContract_15 : decode cX2_removeContract 15 = .ok (.iadd, 1) := by decide +kernel
theorem dX2_removeContract_16 : decode cX2_removeContract 16 = .ok (.istore_n 2, 1) := by decide +kernel
theorem dX2_removeContract_17 : decode cX2_removeContract 17 = .ok (.iload_n 2, 1) := by decide +kernel
theorem dX2_removeContract_18 : decode cX2_removeContract 18 = .ok (.iconst 4, 1) := by decide +kernel
theorem dX2_removeContract_19 : decode cX2_removeContract 19 = .ok (.iadd, 1) := by decide +kernel
theorem dX2_removeContract_20 : decode cX2_removeContract 20 = .ok (.bipush 114, 2) := by decide +kernel
theorem dX2_removeContract_22 : decode cX2_removeContract 22 = .ok (.if_icmp .ge 23, 3) := by decide +kernel
theorem dX2_removeContract_25 : decode cX2_removeContract 25 = .ok (.aload_n 0, 1) := by decide +kernel
theorem dX2_removeContract_26 : decode cX2_removeContract 26 = .ok (.getfield 11, 3) := by decide +kernel
theorem dX2_removeContract_29 : decode cX2_removeContract 29 = .ok (.iload_n 2, 1) := by decide +kernel
theorem dX2_removeContract_30 : decode cX2_removeContract 30 = .ok (.aload_n 0, 1) := by decide +kernel
theorem dX2_removeContract_31 : decode cX2_removeContract 31 = .ok (.getfield 11, 3) := by decide +kernel
theorem dX2_removeContract_34 : decode cX2_removeContract 34 = .ok (.iload_n 2, 1) := by decide +kernel
theorem dX2_removeContract_35 : decode cX2_removeContract 35 = .ok (.iconst 4, 1) := by decide +kernel
theorem dX2_removeContract_36 : decode cX2_removeContract 36 = .ok (.iadd, 1) := by decide +kernel
theorem dX2_removeContract_37 : decode cX2_removeContract 37 = .ok (.iaload, 1) := by decide +kernel
theorem dX2_removeContract_38 : decode cX2_removeContract 38 = .ok (.iastore, 1) := by decide +kernel
theorem dX2_removeContract_39 : decode cX2_removeContract 39 = .ok (.iinc 2 1, 3) := by decide +kernel
theorem dX2_removeContract_42 : decode cX2_removeContract 42 = .ok (.goto (-25), 3) := by decide +kernel
theorem dX2_removeContract_45 : decode cX2_removeContract 45 = .ok (.aload_n 0, 1) := by decide +kernel
theorem dX2_removeContract_46 : decode cX2_removeContract 46 = .ok (.getfield 11, 3) := by decide +kernel
theorem dX2_removeContract_49 : decode cX2_removeContract 49 = .ok (.bipush 114, 2) := by decide +kernel
theorem dX2_removeContract_51 : decode cX2_removeContract 51 = .ok (.dup2, 1) := by decide +kernel
theorem dX2_removeContract_52 : decode cX2_removeContract 52 = .ok (.iaload, 1) := by decide +kernel
theorem dX2_removeContract_53 : decode cX2_removeContract 53 = .ok (.iconst 1, 1) := by decide +kernel
theorem dX2_removeContract_54 : decode cX2_removeContract 54 = .ok (.isub, 1) := by decide +kernel
theorem dX2_removeContract_55 : decode cX2_removeContract 55 = .ok (.iastore, 1) := by decide +kernel
theorem dX2_removeContract_56 : decode cX2_removeContract 56 = .ok (.aload_n 0, 1) := by decide +kernel
theorem dX2_removeContract_57 : decode cX2_removeContract 57 = .ok (.dup, 1) := by decide +kernel
theorem dX2_removeContract_58 : decode cX2_removeContract 58 = .ok (.getfield 15, 3) := by decide +kernel
theorem dX2_removeContract_61 : decode cX2_removeContract 61 = .ok (.iconst 1, 1) := by decide +kernel
theorem dX2_removeContract_62 : decode cX2_removeContract 62 = .ok (.iadd, 1) := by decide +kernel
theorem dX2_removeContract_63 : decode cX2_removeContract 63 = .ok (.putfield 15, 3) := by decide +kernel
theorem dX2_removeContract_66 : decode cX2_removeContract 66 = .ok (.aload_n 0, 1) := by decide +kernel
theorem dX2_removeContract_67 : decode cX2_removeContract 67 = .ok (.invokevirtual 26, 3) := by decide +kernel
theorem dX2_removeContract_70 : decode cX2_removeContract 70 = .ok (.ireturn, 1) := by decide +kernel
theorem dX2_lossOf_0 : decode cX2_lossOf 0 = .ok (.iload_n 1, 1) := by decide +kernel
theorem dX2_lossOf_1 : decode cX2_lossOf 1 = .ok (.aload_n 0, 1) := by decide +kernel
theorem dX2_lossOf_2 : decode cX2_lossOf 2 = .ok (.getfield 11, 3) := by decide +kernel
theorem dX2_lossOf_5 : decode cX2_lossOf 5 = .ok (.iconst 2, 1) := by decide +kernel
theorem dX2_lossOf_6 : decode cX2_lossOf 6 = .ok (.iaload, 1) := by decide +kernel
theorem dX2_lossOf_7 : decode cX2_lossOf 7 = .ok (.imul, 1) := by decide +kernel
theorem dX2_lossOf_8 : decode cX2_lossOf 8 = .ok (.bipush 99, 2) := by decide +kernel
theorem dX2_lossOf_10 : decode cX2_lossOf 10 = .ok (.iadd, 1) := by decide +kernel
theorem dX2_lossOf_11 : decode cX2_lossOf 11 = .ok (.bipush 100, 2) := by decide +kernel
theorem dX2_lossOf_13 : decode cX2_lossOf 13 = .ok (.idiv, 1) := by decide +kernel
theorem dX2_lossOf_14 : decode cX2_lossOf 14 = .ok (.ireturn, 1) := by decide +kernel
set_option maxRecDepth 20000 in
theorem ggX2_filledLevel_X2_lossOf : GoodIn wsX2_filledLevel wsX2_lossOf := goodIn_r _ [5, 6, 11, 12] (by decide +kernel) (by decide +kernel)
set_option maxRecDepth 20000 in
theorem gX2_filledLevel_X2_lossOf : GoodIn wsX2_filledLevel (wsV RX2 58 RX2 yX2_lossOf wsX2_lossOf) := goodIn_app (goodIn_of _ (by decide +kernel)) ggX2_filledLevel_X2_lossOf
set_option maxRecDepth 20000 in
theorem ggX2_filledLevel_X2_inflowOf : GoodIn wsX2_filledLevel wsX2_inflowOf := goodIn_r _ [10, 6, 11, 12] (by decide +kernel) (by decide +kernel)
set_option maxRecDepth 20000 in
theorem gX2_filledLevel_X2_inflowOf : GoodIn wsX2_filledLevel (wsV RX2 30 RX2 yX2_inflowOf wsX2_inflowOf) := goodIn_app (goodIn_of _ (by decide +kernel)) ggX2_filledLevel_X2_inflowOf
theorem dX2_filledLevel_0 : decode cX2_filledLevel 0 = .ok (.iload_n 2, 1) := by decide +kernel
theorem dX2_filledLevel_1 : decode cX2_filledLevel 1 = .ok (.iload_n 3, 1) := by decide +kernel
theorem dX2_filledLevel_2 : decode cX2_filledLevel 2 = .ok (.iadd, 1) := by decide +kernel
theorem dX2_filledLevel_3 : decode cX2_filledLevel 3 = .ok (.aload_n 0, 1) := by decide +kernel
theorem dX2_filledLevel_4 : decode cX2_filledLevel 4 = .ok (.iload_n 3, 1) := by decide +kernel
theorem dX2_filledLevel_5 : decode cX2_filledLevel 5 = .ok (.invokevirtual 58, 3) := by decide +kernel
theorem dX2_filledLevel_8 : decode cX2_filledLevel 8 = .ok (.isub, 1) := by decide +kernel
theorem dX2_filledLevel_9 : decode cX2_filledLevel 9 = .ok (.aload_n 0, 1) := by decide +kernel
theorem dX2_filledLevel_10 : decode cX2_filledLevel 10 = .ok (.iload_n 1, 1) := by decide +kernel
theorem dX2_filledLevel_11 : decode cX2_filledLevel 11 = .ok (.invokevirtual 30, 3) := by decide +kernel
theorem dX2_filledLevel_14 : decode cX2_filledLevel 14 = .ok (.iadd, 1) := by decide +kernel
theorem dX2_filledLevel_15 : decode cX2_filledLevel 15 = .ok (.ireturn, 1) := by decide +kernel
theorem dX2_wantedBy_0 : decode cX2_wantedBy 0 = .ok (.aload_n 0, 1) := by decide +kernel
theorem dX2_wantedBy_1 : decode cX2_wantedBy 1 = .ok (.getfield 11, 3) := by decide +kernel
theorem dX2_wantedBy_4 : decode cX2_wantedBy 4 = .ok (.iconst 4, 1) := by decide +kernel
theorem dX2_wantedBy_5 : decode cX2_wantedBy 5 = .ok (.iaload, 1) := by decide +kernel
theorem dX2_wantedBy_6 : decode cX2_wantedBy 6 = .ok (.iload_n 1, 1) := by decide +kernel
theorem dX2_wantedBy_7 : decode cX2_wantedBy 7 = .ok (.invokestatic 61, 3) := by decide +kernel
theorem dX2_wantedBy_10 : decode cX2_wantedBy 10 = .ok (.ireturn, 1) := by decide +kernel
theorem dX2_letDownOf_0 : decode cX2_letDownOf 0 = .ok (.iconst 0, 1) := by decide +kernel
theorem dX2_letDownOf_1 : decode cX2_letDownOf 1 = .ok (.iload_n 2, 1) := by decide +kernel
theorem dX2_letDownOf_2 : decode cX2_letDownOf 2 = .ok (.iload_n 1, 1) := by decide +kernel
theorem dX2_letDownOf_3 : decode cX2_letDownOf 3 = .ok (.aload_n 0, 1) := by decide +kernel
theorem dX2_letDownOf_4 : decode cX2_letDownOf 4 = .ok (.getfield 11, 3) := by decide +kernel
theorem dX2_letDownOf_7 : decode cX2_letDownOf 7 = .ok (.iconst 5, 1) := by decide +kernel
theorem dX2_letDownOf_8 : decode cX2_letDownOf 8 = .ok (.iaload, 1) := by decide +kernel
theorem dX2_letDownOf_9 : decode cX2_letDownOf 9 = .ok (.isub, 1) := by decide +kernel
theorem dX2_letDownOf_10 : decode cX2_letDownOf 10 = .ok (.invokestatic 66, 3) := by decide +kernel
theorem dX2_letDownOf_13 : decode cX2_letDownOf 13 = .ok (.invokestatic 61, 3) := by decide +kernel
theorem dX2_letDownOf_16 : decode cX2_letDownOf 16 = .ok (.ireturn, 1) := by decide +kernel
theorem dX2_spilledOf_0 : decode cX2_spilledOf 0 = .ok (.iconst 0, 1) := by decide +kernel
theorem dX2_spilledOf_1 : decode cX2_spilledOf 1 = .ok (.iload_n 1, 1) := by decide +kernel
theorem dX2_spilledOf_2 : decode cX2_spilledOf 2 = .ok (.aload_n 0, 1) := by decide +kernel
theorem dX2_spilledOf_3 : decode cX2_spilledOf 3 = .ok (.getfield 11, 3) := by decide +kernel
theorem dX2_spilledOf_6 : decode cX2_spilledOf 6 = .ok (.bipush 6, 2) := by decide +kernel
theorem dX2_spilledOf_8 : decode cX2_spilledOf 8 = .ok (.iaload, 1) := by decide +kernel
theorem dX2_spilledOf_9 : decode cX2_spilledOf 9 = .ok (.isub, 1) := by decide +kernel
theorem dX2_spilledOf_10 : decode cX2_spilledOf 10 = .ok (.invokestatic 61, 3) := by decide +kernel
theorem dX2_spilledOf_13 : decode cX2_spilledOf 13 = .ok (.ireturn, 1) := by decide +kernel
set_option maxRecDepth 20000 in
theorem ggX2_levelBehind_X2_pumpedBy : GoodIn wsX2_levelBehind wsX2_pumpedBy := goodIn_r _ [4, 5, 6, 7, 8] (by decide +kernel) (by decide +kernel)
set_option maxRecDepth 20000 in
theorem gX2_levelBehind_X2_pumpedBy : GoodIn wsX2_levelBehind (va_wsS RX2 69 yX2_pumpedBy wsX2_pumpedBy) := goodIn_app (goodIn_of _ (by decide +kernel)) ggX2_levelBehind_X2_pumpedBy
set_option maxRecDepth 20000 in
theorem ggX2_levelBehind_X2_filledLevel : GoodIn wsX2_levelBehind wsX2_filledLevel := goodIn_r _ [12, 13, 14, 15, 3, 16, 17, 18, 19, 20, 21, 37, 38] (by decide +kernel) (by decide +kernel)
set_option maxRecDepth 20000 in
theorem gX2_levelBehind_X2_filledLevel : GoodIn wsX2_levelBehind (wsV RX2 72 RX2 yX2_filledLevel wsX2_filledLevel) := goodIn_app (goodIn_of _ (by decide +kernel)) ggX2_levelBehind_X2_filledLevel
set_option maxRecDepth 20000 in
theorem ggX2_levelBehind_X2_wantedBy : GoodIn wsX2_levelBehind wsX2_wantedBy := goodIn_r _ [25, 17, 5, 6, 7, 8, 37, 38] (by decide +kernel) (by decide +kernel)
set_option maxRecDepth 20000 in
theorem gX2_levelBehind_X2_wantedBy : GoodIn wsX2_levelBehind (wsV RX2 76 RX2 yX2_wantedBy wsX2_wantedBy) := goodIn_app (goodIn_of _ (by decide +kernel)) ggX2_levelBehind_X2_wantedBy
set_option maxRecDepth 20000 in
theorem ggX2_levelBehind_X2_letDownOf : GoodIn wsX2_levelBehind wsX2_letDownOf := goodIn_r _ [29, 17, 30, 31, 7, 32, 5, 6, 8, 37, 38] (by decide +kernel) (by decide +kernel)
set_option maxRecDepth 20000 in
theorem gX2_levelBehind_X2_letDownOf : GoodIn wsX2_levelBehind (wsV RX2 79 RX2 yX2_letDownOf wsX2_letDownOf) := goodIn_app (goodIn_of _ (by decide +kernel)) ggX2_levelBehind_X2_letDownOf
set_option maxRecDepth 20000 in
theorem ggX2_levelBehind_X2_spilledOf : GoodIn wsX2_levelBehind wsX2_spilledOf := goodIn_r _ [36, 17, 5, 6, 7, 8, 37, 38] (by decide +kernel) (by decide +kernel)
set_option maxRecDepth 20000 in
theorem gX2_levelBehind_X2_spilledOf : GoodIn wsX2_levelBehind (wsV RX2 82 RX2 yX2_spilledOf wsX2_spilledOf) := goodIn_app (goodIn_of _ (by decide +kernel)) ggX2_levelBehind_X2_spilledOf
theorem dX2_levelBehind_0 : decode cX2_levelBehind 0 = .ok (.aload_n 0, 1) := by decide +kernel
theorem dX2_levelBehind_1 : decode cX2_levelBehind 1 = .ok (.iload_n 1, 1) := by decide +kernel
theorem dX2_levelBehind_2 : decode cX2_levelBehind 2 = .ok (.iload_n 2, 1) := by decide +kernel
theorem dX2_levelBehind_3 : decode cX2_levelBehind 3 = .ok (.iload_n 3, 1) := by decide +kernel
theorem dX2_levelBehind_4 : decode cX2_levelBehind 4 = .ok (.invokestatic 69, 3) := by decide +kernel
theorem dX2_levelBehind_7 : decode cX2_levelBehind 7 = .ok (.invokevirtual 72, 3) := by decide +kernel
theorem dX2_levelBehind_10 : decode cX2_levelBehind 10 = .ok (.istore 4, 2) := by decide +kernel
theorem dX2_levelBehind_12 : decode cX2_levelBehind 12 = .ok (.iload 4, 2) := by decide +kernel
theorem dX2_levelBehind_14 : decode cX2_levelBehind 14 = .ok (.aload_n 0, 1) := by decide +kernel
theorem dX2_levelBehind_15 : decode cX2_levelBehind 15 = .ok (.iload 4, 2) := by decide +kernel
theorem dX2_levelBehind_17 : decode cX2_levelBehind 17 = .ok (.aload_n 0, 1) := by decide +kernel
theorem dX2_levelBehind_18 : decode cX2_levelBehind 18 = .ok (.iload_n 3, 1) := by decide +kernel
theorem dX2_levelBehind_19 : decode cX2_levelBehind 19 = .ok (.invokevirtual 76, 3) := by decide +kernel
theorem dX2_levelBehind_22 : decode cX2_levelBehind 22 = .ok (.invokevirtual 79, 3) := by decide +kernel
theorem dX2_levelBehind_25 : decode cX2_levelBehind 25 = .ok (.isub, 1) := by decide +kernel
theorem dX2_levelBehind_26 : decode cX2_levelBehind 26 = .ok (.istore 5, 2) := by decide +kernel
theorem dX2_levelBehind_28 : decode cX2_levelBehind 28 = .ok (.iload 5, 2) := by decide +kernel
theorem dX2_levelBehind_30 : decode cX2_levelBehind 30 = .ok (.aload_n 0, 1) := by decide +kernel
theorem dX2_levelBehind_31 : decode cX2_levelBehind 31 = .ok (.iload 5, 2) := by decide +kernel
theorem dX2_levelBehind_33 : decode cX2_levelBehind 33 = .ok (.invokevirtual 82, 3) := by decide +kernel
theorem dX2_levelBehind_36 : decode cX2_levelBehind 36 = .ok (.isub, 1) := by decide +kernel
theorem dX2_levelBehind_37 : decode cX2_levelBehind 37 = .ok (.ireturn, 1) := by decide +kernel
set_option maxRecDepth 20000 in
theorem ggX2_earnedBy_X2_priceOf : GoodIn wsX2_earnedBy wsX2_priceOf := goodIn_r _ [6, 1, 15, 16] (by decide +kernel) (by decide +kernel)
set_option maxRecDepth 20000 in
theorem gX2_earnedBy_X2_priceOf : GoodIn wsX2_earnedBy (wsV RX2 85 RX2 yX2_priceOf wsX2_priceOf) := goodIn_app (goodIn_of _ (by decide +kernel)) ggX2_earnedBy_X2_priceOf
set_option maxRecDepth 20000 in
theorem ggX2_earnedBy_X2_contracts : GoodIn wsX2_earnedBy wsX2_contracts := goodIn_r _ [10, 1, 15, 16] (by decide +kernel) (by decide +kernel)
set_option maxRecDepth 20000 in
theorem gX2_earnedBy_X2_contracts : GoodIn wsX2_earnedBy (wsV RX2 26 RX2 yX2_contracts wsX2_contracts) := goodIn_app (goodIn_of _ (by decide +kernel)) ggX2_earnedBy_X2_contracts
set_option maxRecDepth 20000 in
theorem ggX2_earnedBy_X2_contractPart : GoodIn wsX2_earnedBy wsX2_contractPart := goodIn_r _ [14, 1, 15, 16] (by decide +kernel) (by decide +kernel)
set_option maxRecDepth 20000 in
theorem gX2_earnedBy_X2_contractPart : GoodIn wsX2_earnedBy (wsV RX2 88 RX2 yX2_contractPart wsX2_contractPart) := goodIn_app (goodIn_of _ (by decide +kernel)) ggX2_earnedBy_X2_contractPart
theorem dX2_earnedBy_0 : decode cX2_earnedBy 0 = .ok (.iload_n 2, 1) := by decide +kernel
theorem dX2_earnedBy_1 : decode cX2_earnedBy 1 = .ok (.aload_n 0, 1) := by decide +kernel
theorem dX2_earnedBy_2 : decode cX2_earnedBy 2 = .ok (.iload_n 1, 1) := by decide +kernel
theorem dX2_earnedBy_3 : decode cX2_earnedBy 3 = .ok (.invokevirtual 85, 3) := by decide +kernel
theorem dX2_earnedBy_6 : decode cX2_earnedBy 6 = .ok (.imul, 1) := by decide +kernel
theorem dX2_earnedBy_7 : decode cX2_earnedBy 7 = .ok (.aload_n 0, 1) := by decide +kernel
theorem dX2_earnedBy_8 : decode cX2_earnedBy 8 = .ok (.getfield 11, 3) := by decide +kernel
theorem dX2_earnedBy_11 : decode cX2_earnedBy 11 = .ok (.iconst 3, 1) := by decide +kernel
theorem dX2_earnedBy_12 : decode cX2_earnedBy 12 = .ok (.iaload, 1) := by decide +kernel
theorem dX2_earnedBy_13 : decode cX2_earnedBy 13 = .ok (.imul, 1) := by decide +kernel
theorem dX2_earnedBy_14 : decode cX2_earnedBy 14 = .ok (.bipush 100, 2) := by decide +kernel
theorem dX2_earnedBy_16 : decode cX2_earnedBy 16 = .ok (.idiv, 1) := by decide +kernel
theorem dX2_earnedBy_17 : decode cX2_earnedBy 17 = .ok (.istore_n 3, 1) := by decide +kernel
theorem dX2_earnedBy_18 : decode cX2_earnedBy 18 = .ok (.iconst 0, 1) := by decide +kernel
theorem dX2_earnedBy_19 : decode cX2_earnedBy 19 = .ok (.istore 4, 2) := by decide +kernel
theorem dX2_earnedBy_21 : decode cX2_earnedBy 21 = .ok (.iload 4, 2) := by decide +kernel
theorem dX2_earnedBy_23 : decode cX2_earnedBy 23 = .ok (.aload_n 0, 1) := by decide +kernel
theorem dX2_earnedBy_24 : decode cX2_earnedBy 24 = .ok (.invokevirtual 26, 3) := by decide +kernel
theorem dX2_earnedBy_27 : decode cX2_earnedBy 27 = .ok (.if_icmp .ge 64, 3) := by decide +kernel
theorem dX2_earnedBy_30 : decode cX2_earnedBy 30 = .ok (.aload_n 0, 1) := by decide +kernel
theorem dX2_earnedBy_31 : decode cX2_earnedBy 31 = .ok (.iload 4, 2) := by decide +kernel
theorem dX2_earnedBy_33 : decode cX2_earnedBy 33 = .ok (.iconst 0, 1) := by decide +kernel
theorem dX2_earnedBy_34 : decode cX2_earnedBy 34 = .ok (.invokevirtual 88, 3) := by decide +kernel
theorem dX2_earnedBy_37 : decode cX2_earnedBy 37 = .ok (.iload_n 1, 1) := by decide +kernel
theorem dX2_earnedBy_38 : decode cX2_earnedBy 38 = .ok (.if_icmp .ne 47, 3) := by decide +kernel
theorem dX2_earnedBy_41 : decode cX2_earnedBy 41 = .ok (.iload_n 2, 1) := by decide +kernel
theorem dX2_earnedBy_42 : decode cX2_earnedBy 42 = .ok (.aload_n 0, 1) := by decide +kernel
theorem dX2_earnedBy_43 : decode cX2_earnedBy 43 = .ok (.iload 4, 2) := by decide +kernel
theorem dX2_earnedBy_45 : decode cX2_earnedBy 45 = .ok (.iconst 1, 1) := by decide +kernel
theorem dX2_earnedBy_46 : decode cX2_earnedBy 46 = .ok (.invokevirtual 88, 3) := by decide +kernel
theorem dX2_earnedBy_49 : decode cX2_earnedBy 49 = .ok (.if_icmp .lt 7, 3) := by decide +kernel
theorem dX2_earnedBy_52 : decode cX2_earnedBy 52 = .ok (.iconst 1, 1) := by decide +kernel
theorem dX2_earnedBy_53 : decode cX2_earnedBy 53 = .ok (.goto 4, 3) := by decide +kernel
theorem dX2_earnedBy_56 : decode cX2_earnedBy 56 = .ok (.iconst 0, 1) := by decide +kernel
theorem dX2_earnedBy_57 : decode cX2_earnedBy 57 = .ok (.istore 5, 2) := by decide +kernel
theorem dX2_earnedBy_59 : decode cX2_earnedBy 59 = .ok (.iload_n 3, 1) := by decide +kernel
theorem dX2_earnedBy_60 : decode cX2_earnedBy 60 = .ok (.iload 5, 2) := by decide +kernel
theorem dX2_earnedBy_62 : decode cX2_earnedBy 62 = .ok (.ifCond .eq 13, 3) := by decide +kernel
theorem dX2_earnedBy_65 : decode cX2_earnedBy 65 = .ok (.aload_n 0, 1) := by decide +kernel
theorem dX2_earnedBy_66 : decode cX2_earnedBy 66 = .ok (.iload 4, 2) := by decide +kernel
theorem dX2_earnedBy_68 : decode cX2_earnedBy 68 = .ok (.iconst 2, 1) := by decide +kernel
theorem dX2_earnedBy_69 : decode cX2_earnedBy 69 = .ok (.invokevirtual 88, 3) := by decide +kernel
theorem dX2_earnedBy_72 : decode cX2_earnedBy 72 = .ok (.goto 11, 3) := by decide +kernel
theorem dX2_earnedBy_75 : decode cX2_earnedBy 75 = .ok (.aload_n 0, 1) := by decide +kernel
theorem dX2_earnedBy_76 : decode cX2_earnedBy 76 = .ok (.iload 4, 2) := by decide +kernel
theorem dX2_earnedBy_78 : decode cX2_earnedBy 78 = .ok (.iconst 3, 1) := by decide +kernel
theorem dX2_earnedBy_79 : decode cX2_earnedBy 79 = .ok (.invokevirtual 88, 3) := by decide +kernel
theorem dX2_earnedBy_82 : decode cX2_earnedBy 82 = .ok (.ineg, 1) := by decide +kernel
theorem dX2_earnedBy_83 : decode cX2_earnedBy 83 = .ok (.iadd, 1) := by decide +kernel
theorem dX2_earnedBy_84 : decode cX2_earnedBy 84 = .ok (.istore_n 3, 1) := by decide +kernel
theorem dX2_earnedBy_85 : decode cX2_earnedBy 85 = .ok (.iinc 4 1, 3) := by decide +kernel
theorem dX2_earnedBy_88 : decode cX2_earnedBy 88 = .ok (.goto (-67), 3) := by decide +kernel
theorem dX2_earnedBy_91 : decode cX2_earnedBy 91 = .ok (.iload_n 2, 1) := by decide +kernel
theorem dX2_earnedBy_92 : decode cX2_earnedBy 92 = .ok (.aload_n 0, 1) := by decide +kernel
theorem dX2_earnedBy_93 : decode cX2_earnedBy 93 = .ok (.getfield 11, 3) := by decide +kernel
theorem dX2_earnedBy_96 : decode cX2_earnedBy 96 = .ok (.iconst 4, 1) := by decide +kernel
theorem dX2_earnedBy_97 : decode cX2_earnedBy 97 = .ok (.iaload, 1) := by decide +kernel
theorem dX2_earnedBy_98 : decode cX2_earnedBy 98 = .ok (.if_icmp .ge 15, 3) := by decide +kernel
theorem dX2_earnedBy_101 : decode cX2_earnedBy 101 = .ok (.iload_n 3, 1) := by decide +kernel
theorem dX2_earnedBy_102 : decode cX2_earnedBy 102 = .ok (.aload_n 0, 1) := by decide +kernel
theorem dX2_earnedBy_103 : decode cX2_earnedBy 103 = .ok (.getfield 11, 3) := by decide +kernel
theorem dX2_earnedBy_106 : decode cX2_earnedBy 106 = .ok (.bipush 9, 2) := by decide +kernel
theorem dX2_earnedBy_108 : decode cX2_earnedBy 108 = .ok (.iaload, 1) := by decide +kernel
theorem dX2_earnedBy_109 : decode cX2_earnedBy 109 = .ok (.isub, 1) := by decide +kernel
theorem dX2_earnedBy_110 : decode cX2_earnedBy 110 = .ok (.goto 4, 3) := by decide +kernel
theorem dX2_earnedBy_113 : decode cX2_earnedBy 113 = .ok (.iload_n 3, 1) := by decide +kernel
theorem dX2_earnedBy_114 : decode cX2_earnedBy 114 = .ok (.ireturn, 1) := by decide +kernel
set_option maxRecDepth 20000 in
theorem ggX2_missedIn_X2_contracts : GoodIn wsX2_missedIn wsX2_contracts := goodIn_r _ [5, 6, 11, 12] (by decide +kernel) (by decide +kernel)
set_option maxRecDepth 20000 in
theorem gX2_missedIn_X2_contracts : GoodIn wsX2_missedIn (wsV RX2 26 RX2 yX2_contracts wsX2_contracts) := goodIn_app (goodIn_of _ (by decide +kernel)) ggX2_missedIn_X2_contracts
set_option maxRecDepth 20000 in
theorem ggX2_missedIn_X2_contractPart : GoodIn wsX2_missedIn wsX2_contractPart := goodIn_r _ [10, 6, 11, 12] (by decide +kernel) (by decide +kernel)
set_option maxRecDepth 20000 in
theorem gX2_missedIn_X2_contractPart : GoodIn wsX2_missedIn (wsV RX2 88 RX2 yX2_contractPart wsX2_contractPart) := goodIn_app (goodIn_of _ (by decide +kernel)) ggX2_missedIn_X2_contractPart
theorem dX2_missedIn_0 : decode cX2_missedIn 0 = .ok (.iconst 0, 1) := by decide +kernel
theorem dX2_missedIn_1 : decode cX2_missedIn 1 = .ok (.istore_n 3, 1) := by decide +kernel
theorem dX2_missedIn_2 : decode cX2_missedIn 2 = .ok (.iconst 0, 1) := by decide +kernel
theorem dX2_missedIn_3 : decode cX2_missedIn 3 = .ok (.istore 4, 2) := by decide +kernel
theorem dX2_missedIn_5 : decode cX2_missedIn 5 = .ok (.iload 4, 2) := by decide +kernel
theorem dX2_missedIn_7 : decode cX2_missedIn 7 = .ok (.aload_n 0, 1) := by decide +kernel
theorem dX2_missedIn_8 : decode cX2_missedIn 8 = .ok (.invokevirtual 26, 3) := by decide +kernel
theorem dX2_missedIn_11 : decode cX2_missedIn 11 = .ok (.if_icmp .ge 34, 3) := by decide +kernel
theorem dX2_missedIn_14 : decode cX2_missedIn 14 = .ok (.aload_n 0, 1) := by decide +kernel
theorem dX2_missedIn_15 : decode cX2_missedIn 15 = .ok (.iload 4, 2) := by decide +kernel
theorem dX2_missedIn_17 : decode cX2_missedIn 17 = .ok (.iconst 0, 1) := by decide +kernel
theorem dX2_missedIn_18 : decode cX2_missedIn 18 = .ok (.invokevirtual 88, 3) := by decide +kernel
theorem dX2_missedIn_21 : decode cX2_missedIn 21 = .ok (.iload_n 1, 1) := by decide +kernel
theorem dX2_missedIn_22 : decode cX2_missedIn 22 = .ok (.if_icmp .ne 17, 3) := by decide +kernel
theorem dX2_missedIn_25 : decode cX2_missedIn 25 = .ok (.iload_n 2, 1) := by decide +kernel
theorem dX2_missedIn_26 : decode cX2_missedIn 26 = .ok (.aload_n 0, 1) := by decide +kernel
theorem dX2_missedIn_27 : decode cX2_missedIn 27 = .ok (.iload 4, 2) := by decide +kernel
theorem dX2_missedIn_29 : decode cX2_missedIn 29 = .ok (.iconst 1, 1) := by decide +kernel
theorem dX2_missedIn_30 : decode cX2_missedIn 30 = .ok (.invokevirtual 88, 3) := by decide +kernel
theorem dX2_missedIn_33 : decode cX2_missedIn 33 = .ok (.if_icmp .ge 6, 3) := by decide +kernel
theorem dX2_missedIn_36 : decode cX2_missedIn 36 = .ok (.iinc 3 1, 3) := by decide +kernel
theorem dX2_missedIn_39 : decode cX2_missedIn 39 = .ok (.iinc 4 1, 3) := by decide +kernel
theorem dX2_missedIn_42 : decode cX2_missedIn 42 = .ok (.goto (-37), 3) := by decide +kernel
theorem dX2_missedIn_45 : decode cX2_missedIn 45 = .ok (.iload_n 3, 1) := by decide +kernel
theorem dX2_missedIn_46 : decode cX2_missedIn 46 = .ok (.ireturn, 1) := by decide +kernel
set_option maxRecDepth 20000 in
theorem ggX2_highestInTheEnd_X2_levelBehind : GoodIn wsX2_highestInTheEnd wsX2_levelBehind := goodIn_r _ [6, 7, 8, 5, 9, 10, 11, 12, 13, 14, 15, 16, 17, 18, 19, 20, 21, 1, 22, 23, 24, 25, 26, 27, 28, 29, 30, 31, 32, 33, 34, 35, 36, 37, 38, 39, 40, 41, 42] (by decide +kernel) (by decide +kernel)
set_option maxRecDepth 20000 in
theorem gX2_highestInTheEnd_X2_levelBehind : GoodIn wsX2_highestInTheEnd (wsV RX2 91 RX2 yX2_levelBehind wsX2_levelBehind) := goodIn_app (goodIn_of _ (by decide +kernel)) ggX2_highestInTheEnd_X2_levelBehind
theorem dX2_highestInTheEnd_0 : decode cX2_highestInTheEnd 0 = .ok (.aload_n 0, 1) := by decide +kernel
