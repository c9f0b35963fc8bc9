theorem dX6_price_20 : decode cX6_price 20 = .ok (.iload_n 2, 1) := by decide +kernel
theorem dX6_price_21 : decode cX6_price 21 = .ok (.invokevirtual 75, 3) := by decide +kernel
theorem dX6_price_24 : decode cX6_price 24 = .ok (.invokevirtual 71, 3) := by decide +kernel
theorem dX6_price_27 : decode cX6_price 27 = .ok (.ireturn, 1) := by decide +kernel
set_option maxRecDepth 20000 in
theorem ggX6_inflow_X1_keepAside : GoodIn wsX6_inflow wsX1_keepAside := goodIn_r _ [6, 7, 8, 9, 10, 11, 12, 13, 14, 15, 16, 17, 18, 19, 20, 21, 22, 23, 24, 48, 49, 50, 51, 52] (by decide +kernel) (by decide +kernel)
set_option maxRecDepth 20000 in
theorem gX6_inflow_X1_keepAside_n64 : GoodIn wsX6_inflow (wsX1_keepAside) := ggX6_inflow_X1_keepAside
set_option maxRecDepth 20000 in
theorem ggX6_inflow_X2_changeInflow : GoodIn wsX6_inflow wsX2_changeInflow := goodIn_r _ [27, 28, 29, 15, 30, 31, 32, 33, 10, 34, 13, 51, 52] (by decide +kernel) (by decide +kernel)
set_option maxRecDepth 20000 in
theorem gX6_inflow_X2_changeInflow_n78 : GoodIn wsX6_inflow (wsX2_changeInflow) := ggX6_inflow_X2_changeInflow
set_option maxRecDepth 20000 in
theorem ggX6_inflow_X1_recordUnlessError : GoodIn wsX6_inflow wsX1_recordUnlessError := goodIn_r _ [37, 7, 38, 39, 18, 19, 20, 48, 49, 50] (by decide +kernel) (by decide +kernel)
set_option maxRecDepth 20000 in
theorem gX6_inflow_X1_recordUnlessError_n71 : GoodIn wsX6_inflow (wsX1_recordUnlessError) := ggX6_inflow_X1_recordUnlessError
theorem dX6_inflow_0 : decode cX6_inflow 0 = .ok (.aload_n 0, 1) := by decide +kernel
theorem dX6_inflow_1 : decode cX6_inflow 1 = .ok (.getfield 51, 3) := by decide +kernel
theorem dX6_inflow_4 : decode cX6_inflow 4 = .ok (.aload_n 0, 1) := by decide +kernel
theorem dX6_inflow_5 : decode cX6_inflow 5 = .ok (.getfield 10, 3) := by decide +kernel
theorem dX6_inflow_8 : decode cX6_inflow 8 = .ok (.invokevirtual 64, 3) := by decide +kernel
theorem dX6_inflow_11 : decode cX6_inflow 11 = .ok (.aload_n 0, 1) := by decide +kernel
theorem dX6_inflow_12 : decode cX6_inflow 12 = .ok (.getfield 51, 3) := by decide +kernel
theorem dX6_inflow_15 : decode cX6_inflow 15 = .ok (.aload_n 0, 1) := by decide +kernel
theorem dX6_inflow_16 : decode cX6_inflow 16 = .ok (.getfield 10, 3) := by decide +kernel
theorem dX6_inflow_19 : decode cX6_inflow 19 = .ok (.iload_n 1, 1) := by decide +kernel
theorem dX6_inflow_20 : decode cX6_inflow 20 = .ok (.iload_n 2, 1) := by decide +kernel
theorem dX6_inflow_21 : decode cX6_inflow 21 = .ok (.invokevirtual 78, 3) := by decide +kernel
theorem dX6_inflow_24 : decode cX6_inflow 24 = .ok (.invokevirtual 71, 3) := by decide +kernel
theorem dX6_inflow_27 : decode cX6_inflow 27 = .ok (.ireturn, 1) := by decide +kernel
set_option maxRecDepth 20000 in
theorem ggX6_plan_X1_keepAside : GoodIn wsX6_plan wsX1_keepAside := goodIn_r _ [6, 7, 8, 9, 10, 11, 12, 13, 14, 15, 16, 17, 18, 19, 20, 21, 22, 23, 24, 47, 48, 49, 50, 51] (by decide +kernel) (by decide +kernel)
set_option maxRecDepth 20000 in
theorem gX6_plan_X1_keepAside_n64 : GoodIn wsX6_plan (wsX1_keepAside) := ggX6_plan_X1_keepAside
set_option maxRecDepth 20000 in
theorem ggX6_plan_X2_changePlan : GoodIn wsX6_plan wsX2_changePlan := goodIn_r _ [27, 13, 28, 15, 29, 30, 31, 32, 10, 33, 50, 51] (by decide +kernel) (by decide +kernel)
set_option maxRecDepth 20000 in
theorem gX6_plan_X2_changePlan_n81 : GoodIn wsX6_plan (wsX2_changePlan) := ggX6_plan_X2_changePlan
set_option maxRecDepth 20000 in
theorem ggX6_plan_X1_recordUnlessError : GoodIn wsX6_plan wsX1_recordUnlessError := goodIn_r _ [36, 7, 37, 38, 18, 19, 20, 47, 48, 49] (by decide +kernel) (by decide +kernel)
set_option maxRecDepth 20000 in
theorem gX6_plan_X1_recordUnlessError_n71 : GoodIn wsX6_plan (wsX1_recordUnlessError) := ggX6_plan_X1_recordUnlessError
theorem dX6_plan_0 : decode cX6_plan 0 = .ok (.aload_n 0, 1) := by decide +kernel
theorem dX6_plan_1 : decode cX6_plan 1 = .ok (.getfield 51, 3) := by decide +kernel
theorem dX6_plan_4 : decode cX6_plan 4 = .ok (.aload_n 0, 1) := by decide +kernel
theorem dX6_plan_5 : decode cX6_plan 5 = .ok (.getfield 10, 3) := by decide +kernel
theorem dX6_plan_8 : decode cX6_plan 8 = .ok (.invokevirtual 64, 3) := by decide +kernel
theorem dX6_plan_11 : decode cX6_plan 11 = .ok (.aload_n 0, 1) := by decide +kernel
theorem dX6_plan_12 : decode cX6_plan 12 = .ok (.getfield 51, 3) := by decide +kernel
theorem dX6_plan_15 : decode cX6_plan 15 = .ok (.aload_n 0, 1) := by decide +kernel
theorem dX6_plan_16 : decode cX6_plan 16 = .ok (.getfield 10, 3) := by decide +kernel
theorem dX6_plan_19 : decode cX6_plan 19 = .ok (.iload_n 1, 1) := by decide +kernel
theorem dX6_plan_20 : decode cX6_plan 20 = .ok (.iload_n 2, 1) := by decide +kernel
theorem dX6_plan_21 : decode cX6_plan 21 = .ok (.invokevirtual 81, 3) := by decide +kernel
theorem dX6_plan_24 : decode cX6_plan 24 = .ok (.invokevirtual 71, 3) := by decide +kernel
theorem dX6_plan_27 : decode cX6_plan 27 = .ok (.ireturn, 1) := by decide +kernel
set_option maxRecDepth 20000 in
theorem ggX6_contract_X1_keepAside : GoodIn wsX6_contract wsX1_keepAside := goodIn_r _ [6, 7, 8, 9, 10, 11, 12, 13, 14, 15, 16, 17, 18, 19, 20, 21, 22, 23, 24, 52, 53, 54, 55, 56] (by decide +kernel) (by decide +kernel)
set_option maxRecDepth 20000 in
theorem gX6_contract_X1_keepAside_n64 : GoodIn wsX6_contract (wsX1_keepAside) := ggX6_contract_X1_keepAside
set_option maxRecDepth 20000 in
theorem ggX6_contract_X2_addContract : GoodIn wsX6_contract wsX2_addContract := goodIn_r _ [27, 13, 28, 29, 15, 30, 31, 32, 33, 10, 34, 35, 36, 37, 38, 55, 56] (by decide +kernel) (by decide +kernel)
set_option maxRecDepth 20000 in
theorem gX6_contract_X2_addContract_n84 : GoodIn wsX6_contract (wsX2_addContract) := ggX6_contract_X2_addContract
set_option maxRecDepth 20000 in
theorem ggX6_contract_X1_recordUnlessError : GoodIn wsX6_contract wsX1_recordUnlessError := goodIn_r _ [41, 7, 42, 43, 18, 19, 20, 52, 53, 54] (by decide +kernel) (by decide +kernel)
set_option maxRecDepth 20000 in
theorem gX6_contract_X1_recordUnlessError_n71 : GoodIn wsX6_contract (wsX1_recordUnlessError) := ggX6_contract_X1_recordUnlessError
theorem dX6_contract_0 : decode cX6_contract 0 = .ok (.aload_n 0, 1) := by decide +kernel
theorem dX6_contract_1 : decode cX6_contract 1 = .ok (.getfield 51, 3) := by decide +kernel
theorem dX6_contract_4 : decode cX6_contract 4 = .ok (.aload_n 0, 1) := by decide +kernel
theorem dX6_contract_5 : decode cX6_contract 5 = .ok (.getfield 10, 3) := by decide +kernel
theorem dX6_contract_8 : decode cX6_contract 8 = .ok (.invokevirtual 64, 3) := by decide +kernel
theorem dX6_contract_11 : decode cX6_contract 11 = .ok (.aload_n 0, 1) := by decide +kernel
theorem dX6_contract_12 : decode cX6_contract 12 = .ok (.getfield 51, 3) := by decide +kernel
theorem dX6_contract_15 : decode cX6_contract 15 = .ok (.aload_n 0, 1) := by decide +kernel
theorem dX6_contract_16 : decode cX6_contract 16 = .ok (.getfield 10, 3) := by decide +kernel
theorem dX6_contract_19 : decode cX6_contract 19 = .ok (.iload_n 1, 1) := by decide +kernel
theorem dX6_contract_20 : decode cX6_contract 20 = .ok (.iload_n 2, 1) := by decide +kernel
theorem dX6_contract_21 : decode cX6_contract 21 = .ok (.iload_n 3, 1) := by decide +kernel
theorem dX6_contract_22 : decode cX6_contract 22 = .ok (.iload 4, 2) := by decide +kernel
theorem dX6_contract_24 : decode cX6_contract 24 = .ok (.invokevirtual 84, 3) := by decide +kernel
theorem dX6_contract_27 : decode cX6_contract 27 = .ok (.invokevirtual 71, 3) := by decide +kernel
theorem dX6_contract_30 : decode cX6_contract 30 = .ok (.ireturn, 1) := by decide +kernel
set_option maxRecDepth 20000 in
theorem ggX6_drop_X1_keepAside : GoodIn wsX6_drop wsX1_keepAside := goodIn_r _ [6, 7, 8, 9, 10, 11, 12, 13, 14, 15, 16, 17, 18, 19, 20, 21, 22, 23, 24, 50, 51, 52, 53, 54] (by decide +kernel) (by decide +kernel)
set_option maxRecDepth 20000 in
theorem gX6_drop_X1_keepAside_n64 : GoodIn wsX6_drop (wsX1_keepAside) := ggX6_drop_X1_keepAside
set_option maxRecDepth 20000 in
theorem ggX6_drop_X2_removeContract : GoodIn wsX6_drop wsX2_removeContract := goodIn_r _ [27, 13, 28, 29, 30, 31, 10, 32, 33, 34, 35, 36, 53, 54] (by decide +kernel) (by decide +kernel)
set_option maxRecDepth 20000 in
theorem gX6_drop_X2_removeContract_n88 : GoodIn wsX6_drop (wsX2_removeContract) := ggX6_drop_X2_removeContract
set_option maxRecDepth 20000 in
theorem ggX6_drop_X1_recordUnlessError : GoodIn wsX6_drop wsX1_recordUnlessError := goodIn_r _ [39, 7, 40, 41, 18, 19, 20, 50, 51, 52] (by decide +kernel) (by decide +kernel)
set_option maxRecDepth 20000 in
theorem gX6_drop_X1_recordUnlessError_n71 : GoodIn wsX6_drop (wsX1_recordUnlessError) := ggX6_drop_X1_recordUnlessError
theorem dX6_drop_0 : decode cX6_drop 0 = .ok (.aload_n 0, 1) := by decide +kernel
theorem dX6_drop_1 : decode cX6_drop 1 = .ok (.getfield 51, 3) := by decide +kernel
theorem dX6_drop_4 : decode cX6_drop 4 = .ok (.aload_n 0, 1) := by decide +kernel
theorem dX6_drop_5 : decode cX6_drop 5 = .ok (.getfield 10, 3) := by decide +kernel
theorem dX6_drop_8 : decode cX6_drop 8 = .ok (.invokevirtual 64, 3) := by decide +kernel
theorem dX6_drop_11 : decode cX6_drop 11 = .ok (.aload_n 0, 1) := by decide +kernel
theorem dX6_drop_12 : decode cX6_drop 12 = .ok (.getfield 51, 3) := by decide +kernel
theorem dX6_drop_15 : decode cX6_drop 15 = .ok (.aload_n 0, 1) := by decide +kernel
theorem dX6_drop_16 : decode cX6_drop 16 = .ok (.getfield 10, 3) := by decide +kernel
theorem dX6_drop_19 : decode cX6_drop 19 = .ok (.iload_n 1, 1) := by decide +kernel
theorem dX6_drop_20 : decode cX6_drop 20 = .ok (.invokevirtual 88, 3) := by decide +kernel
theorem dX6_drop_23 : decode cX6_drop 23 = .ok (.invokevirtual 71, 3) := by decide +kernel
theorem dX6_drop_26 : decode cX6_drop 26 = .ok (.ireturn, 1) := by decide +kernel
set_option maxRecDepth 20000 in
theorem ggX6_adopt_X1_keepAside : GoodIn wsX6_adopt wsX1_keepAside := goodIn_r _ [6, 7, 8, 9, 10, 11, 12, 13, 14, 15, 16, 17, 18, 19, 20, 21, 22, 23, 24, 155, 156, 157, 158, 159] (by decide +kernel) (by decide +kernel)
set_option maxRecDepth 20000 in
theorem gX6_adopt_X1_keepAside_n64 : GoodIn wsX6_adopt (wsX1_keepAside) := ggX6_adopt_X1_keepAside
set_option maxRecDepth 20000 in
theorem ggX6_adopt_X6_adoptBest : GoodIn wsX6_adopt wsX6_adoptBest := goodIn_r _ [28, 29, 2, 30, 31, 32, 33, 34, 35, 36, 37, 38, 39, 10, 40, 41, 13, 42, 43, 44, 45, 46, 47, 48, 49, 50, 51, 52, 53, 54, 55, 56, 57, 58, 59, 60, 61, 62, 63, 64, 65, 66, 67, 68, 69, 70, 71, 19, 72, 73, 74, 75, 76, 77, 78, 79, 80, 18, 20, 81, 82, 83, 84, 85, 86, 87, 88, 89, 90, 91, 15, 92, 93, 94, 95, 96, 97, 98, 99, 100, 101, 102, 103, 104, 105, 106, 107, 108, 109, 110, 111, 112, 113, 114, 115, 116, 117, 118, 119, 120, 121, 122, 123, 124, 125, 126, 127, 128, 129, 130, 131, 132, 133, 134, 135, 136, 137, 138, 139, 140, 141, 147, 148, 149, 150, 151, 152, 153, 154, 160, 161, 162, 163, 164, 165, 166, 167, 168, 158, 159] (by decide +kernel) (by decide +kernel)
set_option maxRecDepth 20000 in
theorem gX6_adopt_X6_adoptBest : GoodIn wsX6_adopt (wsV RX6 91 RX6 yX6_adoptBest wsX6_adoptBest) := goodIn_app (goodIn_of _ (by decide +kernel)) ggX6_adopt_X6_adoptBest
set_option maxRecDepth 20000 in
theorem ggX6_adopt_X1_recordUnlessError : GoodIn wsX6_adopt wsX1_recordUnlessError := goodIn_r _ [144, 7, 145, 146, 18, 19, 20, 155, 156, 157] (by decide +kernel) (by decide +kernel)
set_option maxRecDepth 20000 in
theorem gX6_adopt_X1_recordUnlessError_n71 : GoodIn wsX6_adopt (wsX1_recordUnlessError) := ggX6_adopt_X1_recordUnlessError
theorem dX6_adopt_0 : decode cX6_adopt 0 = .ok (.aload_n 0, 1) := by decide +kernel
theorem dX6_adopt_1 : decode cX6_adopt 1 = .ok (.getfield 51, 3) := by decide +kernel
theorem dX6_adopt_4 : decode cX6_adopt 4 = .ok (.aload_n 0, 1) := by decide +kernel
theorem dX6_adopt_5 : decode cX6_adopt 5 = .ok (.getfield 10, 3) := by decide +kernel
theorem dX6_adopt_8 : decode cX6_adopt 8 = .ok (.invokevirtual 64, 3) := by decide +kernel
theorem dX6_adopt_11 : decode cX6_adopt 11 = .ok (.aload_n 0, 1) := by decide +kernel
theorem dX6_adopt_12 : decode cX6_adopt 12 = .ok (.getfield 51, 3) := by decide +kernel
theorem dX6_adopt_15 : decode cX6_adopt 15 = .ok (.aload_n 0, 1) := by decide +kernel
theorem dX6_adopt_16 : decode cX6_adopt 16 = .ok (.invokevirtual 91, 3) := by decide +kernel
theorem dX6_adopt_19 : decode cX6_adopt 19 = .ok (.invokevirtual 71, 3) := by decide +kernel
theorem dX6_adopt_22 : decode cX6_adopt 22 = .ok (.ireturn, 1) := by decide +kernel
set_option maxRecDepth 20000 in
theorem ggX6_hour_X6_isHour : GoodIn wsX6_hour wsX6_isHour := goodIn_r _ [7] (by decide +kernel) (by decide +kernel)
set_option maxRecDepth 20000 in
theorem gX6_hour_X6_isHour : GoodIn wsX6_hour (va_wsS RX6 95 yX6_isHour wsX6_isHour) := goodIn_app (goodIn_of _ (by decide +kernel)) ggX6_hour_X6_isHour
set_option maxRecDepth 20000 in
theorem ggX6_hour_X0_follow : GoodIn wsX6_hour wsX0_follow := goodIn_r _ [11, 12, 13, 14, 15, 16, 17, 18, 19, 20, 21, 22, 23, 9, 24, 25, 26, 27, 28, 29, 5, 6, 7, 30, 31, 32, 33, 34, 35, 36, 37, 38, 39, 40, 41, 42, 43, 44, 45, 46, 47, 48, 49, 50, 51, 52, 53, 54, 55, 56, 57, 58, 59, 60, 61, 62, 63, 64, 65, 66, 67, 68, 69, 70, 71, 72, 73, 74, 75, 76, 77, 78, 79, 80, 81, 82, 83, 92, 93, 94, 95, 96, 97, 98, 99, 100, 101, 102] (by decide +kernel) (by decide +kernel)
set_option maxRecDepth 20000 in
theorem gX6_hour_X0_follow_n99 : GoodIn wsX6_hour (wsX0_follow) := ggX6_hour_X0_follow
set_option maxRecDepth 20000 in
theorem ggX6_hour_X2_priceOf : GoodIn wsX6_hour wsX2_priceOf := goodIn_r _ [68, 20, 101, 102] (by decide +kernel) (by decide +kernel)
set_option maxRecDepth 20000 in
theorem gX6_hour_X2_priceOf_n102 : GoodIn wsX6_hour (wsX2_priceOf) := ggX6_hour_X2_priceOf
set_option maxRecDepth 20000 in
theorem ggX6_hour_X2_inflowOf : GoodIn wsX6_hour wsX2_inflowOf := goodIn_r _ [49, 20, 101, 102] (by decide +kernel) (by decide +kernel)
set_option maxRecDepth 20000 in
theorem gX6_hour_X2_inflowOf_n105 : GoodIn wsX6_hour (wsX2_inflowOf) := ggX6_hour_X2_inflowOf
set_option maxRecDepth 20000 in
theorem ggX6_hour_X2_planOf : GoodIn wsX6_hour wsX2_planOf := goodIn_r _ [32, 20, 101, 102] (by decide +kernel) (by decide +kernel)
set_option maxRecDepth 20000 in
theorem gX6_hour_X2_planOf_n108 : GoodIn wsX6_hour (wsX2_planOf) := ggX6_hour_X2_planOf
theorem dX6_hour_0 : decode cX6_hour 0 = .ok (.iload_n 1, 1) := by decide +kernel
theorem dX6_hour_1 : decode cX6_hour 1 = .ok (.invokestatic 95, 3) := by decide +kernel
theorem dX6_hour_4 : decode cX6_hour 4 = .ok (.ifCond .ne 5, 3) := by decide +kernel
theorem dX6_hour_7 : decode cX6_hour 7 = .ok (.iconst (-1), 1) := by decide +kernel
theorem dX6_hour_8 : decode cX6_hour 8 = .ok (.ireturn, 1) := by decide +kernel
theorem dX6_hour_9 : decode cX6_hour 9 = .ok (.aload_n 0, 1) := by decide +kernel
theorem dX6_hour_10 : decode cX6_hour 10 = .ok (.getfield 21, 3) := by decide +kernel
theorem dX6_hour_13 : decode cX6_hour 13 = .ok (.invokevirtual 99, 3) := by decide +kernel
theorem dX6_hour_16 : decode cX6_hour 16 = .ok (.iload_n 2, 1) := by decide +kernel
theorem dX6_hour_17 : decode cX6_hour 17 = .ok (.tableswitch 172 0 10 #[59, 68, 77, 89, 99, 109, 119, 129, 139, 152, 162], 59) := by decide +kernel
theorem dX6_hour_76 : decode cX6_hour 76 = .ok (.aload_n 0, 1) := by decide +kernel
theorem dX6_hour_77 : decode cX6_hour 77 = .ok (.getfield 10, 3) := by decide +kernel
theorem dX6_hour_80 : decode cX6_hour 80 = .ok (.iload_n 1, 1) := by decide +kernel
theorem dX6_hour_81 : decode cX6_hour 81 = .ok (.invokevirtual 102, 3) := by decide +kernel
theorem dX6_hour_84 : decode cX6_hour 84 = .ok (.ireturn, 1) := by decide +kernel
theorem dX6_hour_85 : decode cX6_hour 85 = .ok (.aload_n 0, 1) := by decide +kernel
theorem dX6_hour_86 : decode cX6_hour 86 = .ok (.getfield 10, 3) := by decide +kernel
theorem dX6_hour_89 : decode cX6_hour 89 = .ok (.iload_n 1, 1) := by decide +kernel
theorem dX6_hour_90 : decode cX6_hour 90 = .ok (.invokevirtual 105, 3) := by decide +kernel
theorem dX6_hour_93 : decode cX6_hour 93 = .ok (.ireturn, 1) := by decide +kernel
theorem dX6_hour_94 : decode cX6_hour 94 = .ok (.aload_n 0, 1) := by decide +kernel
theorem dX6_hour_95 : decode cX6_hour 95 = .ok (.getfield 10, 3) := by decide +kernel
theorem dX6_hour_98 : decode cX6_hour 98 = .ok (.iload_n 1, 1) := by decide +kernel
theorem dX6_hour_99 : decode cX6_hour 99 = .ok (.invokevirtual 108, 3) := by decide +kernel
theorem dX6_hour_102 : decode cX6_hour 102 = .ok (.bipush 100, 2) := by decide +kernel
theorem dX6_hour_104 : decode cX6_hour 104 = .ok (.iadd, 1) := by decide +kernel
theorem dX6_hour_105 : decode cX6_hour 105 = .ok (.ireturn, 1) := by decide +kernel
theorem dX6_hour_106 : decode cX6_hour 106 = .ok (.aload_n 0, 1) := by decide +kernel
theorem dX6_hour_107 : decode cX6_hour 107 = .ok (.getfield 21, 3) := by decide +kernel
theorem dX6_hour_110 : decode cX6_hour 110 = .ok (.getfield 111, 3) := by decide +kernel
theorem dX6_hour_113 : decode cX6_hour 113 = .ok (.iload_n 1, 1) := by decide +kernel
theorem dX6_hour_114 : decode cX6_hour 114 = .ok (.iaload, 1) := by decide +kernel
theorem dX6_hour_115 : decode cX6_hour 115 = .ok (.ireturn, 1) := by decide +kernel
theorem dX6_hour_116 : decode cX6_hour 116 = .ok (.aload_n 0, 1) := by decide +kernel
theorem dX6_hour_117 : decode cX6_hour 117 = .ok (.getfield 21, 3) := by decide +kernel
theorem dX6_hour_120 : decode cX6_hour 120 = .ok (.getfield 115, 3) := by decide +kernel
theorem dX6_hour_123 : decode cX6_hour 123 = .ok (.iload_n 1, 1) := by decide +kernel
theorem dX6_hour_124 : decode cX6_hour 124 = .ok (.iaload, 1) := by decide +kernel
theorem dX6_hour_125 : decode cX6_hour 125 = .ok (.ireturn, 1) := by decide +kernel
theorem dX6_hour_126 : decode cX6_hour 126 = .ok (.aload_n 0, 1) := by decide +kernel
theorem dX6_hour_127 : decode cX6_hour 127 = .ok (.getfield 21, 3) := by decide +kernel
theorem dX6_hour_130 : decode cX6_hour 130 = .ok (.getfield 118, 3) := by decide +kernel
theorem dX6_hour_133 : decode cX6_hour 133 = .ok (.iload_n 1, 1) := by decide +kernel
theorem dX6_hour_134 : decode cX6_hour 134 = .ok (.iaload, 1) := by decide +kernel
theorem dX6_hour_135 : decode cX6_hour 135 = .ok (.ireturn, 1) := by decide +kernel
theorem dX6_hour_136 : decode cX6_hour 136 = .ok (.aload_n 0, 1) := by decide +kernel
theorem dX6_hour_137 : decode cX6_hour 137 = .ok (.getfield 21, 3) := by decide +kernel
theorem dX6_hour_140 : decode cX6_hour 140 = .ok (.getfield 121, 3) := by decide +kernel
theorem dX6_hour_143 : decode cX6_hour 143 = .ok (.iload_n 1, 1) := by decide +kernel
theorem dX6_hour_144 : decode cX6_hour 144 = .ok (.iaload, 1) := by decide +kernel
theorem dX6_hour_145 : decode cX6_hour 145 = .ok (.ireturn, 1) := by decide +kernel
theorem dX6_hour_146 : decode cX6_hour 146 = .ok (.aload_n 0, 1) := by decide +kernel
theorem dX6_hour_147 : decode cX6_hour 147 = .ok (.getfield 21, 3) := by decide +kernel
theorem dX6_hour_150 : decode cX6_hour 150 = .ok (.getfield 124, 3) := by decide +kernel
theorem dX6_hour_153 : decode cX6_hour 153 = .ok (.iload_n 1, 1) := by decide +kernel
theorem dX6_hour_154 : decode cX6_hour 154 = .ok (.iaload, 1) := by decide +kernel
theorem dX6_hour_155 : decode cX6_hour 155 = .ok (.ireturn, 1) := by decide +kernel
theorem dX6_hour_156 : decode cX6_hour 156 = .ok (.aload_n 0, 1) := by decide +kernel
theorem dX6_hour_157 : decode cX6_hour 157 = .ok (.getfield 21, 3) := by decide +kernel
theorem dX6_hour_160 : decode cX6_hour 160 = .ok (.getfield 127, 3) := by decide +kernel
theorem dX6_hour_163 : decode cX6_hour 163 = .ok (.iload_n 1, 1) := by decide +kernel
theorem dX6_hour_164 : decode cX6_hour 164 = .ok (.iaload, 1) := by decide +kernel
theorem dX6_hour_165 : decode cX6_hour 165 = .ok (.ldc 130, 2) := by decide +kernel
theorem dX6_hour_167 : decode cX6_hour 167 = .ok (.iadd, 1) := by decide +kernel
theorem dX6_hour_168 : decode cX6_hour 168 = .ok (.ireturn, 1) := by decide +kernel
theorem dX6_hour_169 : decode cX6_hour 169 = .ok (.aload_n 0, 1) := by decide +kernel
theorem dX6_hour_170 : decode cX6_hour 170 = .ok (.getfield 21, 3) := by decide +kernel
theorem dX6_hour_173 : decode cX6_hour 173 = .ok (.getfield 131, 3) := by decide +kernel
theorem dX6_hour_176 : decode cX6_hour 176 = .ok (.iload_n 1, 1) := by decide +kernel
theorem dX6_hour_177 : decode cX6_hour 177 = .ok (.iaload, 1) := by decide +kernel
theorem dX6_hour_178 : decode cX6_hour 178 = .ok (.ireturn, 1) := by decide +kernel
theorem dX6_hour_179 : decode cX6_hour 179 = .ok (.aload_n 0, 1) := by decide +kernel
theorem dX6_hour_180 : decode cX6_hour 180 = .ok (.getfield 21, 3) := by decide +kernel
theorem dX6_hour_183 : decode cX6_hour 183 = .ok (.getfield 134, 3) := by decide +kernel
theorem dX6_hour_186 : decode cX6_hour 186 = .ok (.iload_n 1, 1) := by decide +kernel
theorem dX6_hour_187 : decode cX6_hour 187 = .ok (.iaload, 1) := by decide +kernel
theorem dX6_hour_188 : decode cX6_hour 188 = .ok (.ireturn, 1) := by decide +kernel
theorem dX6_hour_189 : decode cX6_hour 189 = .ok (.bipush (-2), 2) := by decide +kernel
theorem dX6_hour_191 : decode cX6_hour 191 = .ok (.ireturn, 1) := by decide +kernel
set_option maxRecDepth 20000 in
theorem ggX6_ofContract_X2_isContract : GoodIn wsX6_ofContract wsX2_isContract := goodIn_r _ [6, 7, 8, 9, 4, 10, 11, 96, 97] (by decide +kernel) (by decide +kernel)
set_option maxRecDepth 20000 in
theorem gX6_ofContract_X2_isContract_n137 : GoodIn wsX6_ofContract (wsX2_isContract) := ggX6_ofContract_X2_isContract
set_option maxRecDepth 20000 in
theorem ggX6_ofContract_X2_contractPart : GoodIn wsX6_ofContract wsX2_contractPart := goodIn_r _ [14, 11, 96, 97] (by decide +kernel) (by decide +kernel)
set_option maxRecDepth 20000 in
theorem gX6_ofContract_X2_contractPart_n140 : GoodIn wsX6_ofContract (wsX2_contractPart) := ggX6_ofContract_X2_contractPart
set_option maxRecDepth 20000 in
theorem ggX6_ofContract_X0_follow : GoodIn wsX6_ofContract wsX0_follow := goodIn_r _ [18, 19, 20, 21, 22, 23, 4, 24, 25, 11, 26, 27, 28, 16, 29, 30, 31, 32, 33, 34, 35, 36, 37, 38, 39, 40, 41, 42, 43, 44, 45, 46, 47, 48, 49, 50, 51, 52, 53, 54, 55, 56, 57, 58, 59, 60, 61, 62, 63, 64, 65, 66, 67, 68, 69, 70, 71, 72, 73, 74, 75, 76, 7, 8, 9, 10, 77, 12, 13, 14, 78, 79, 80, 81, 82, 83, 84, 98, 99, 100, 101, 102, 103, 104, 105, 106, 96, 97] (by decide +kernel) (by decide +kernel)
set_option maxRecDepth 20000 in
theorem gX6_ofContract_X0_follow_n99 : GoodIn wsX6_ofContract (wsX0_follow) := ggX6_ofContract_X0_follow
set_option maxRecDepth 20000 in
theorem ggX6_ofContract_X0_isMet : GoodIn wsX6_ofContract wsX0_isMet := goodIn_r _ [87, 19, 32, 12, 4, 13, 14, 11, 35, 36, 37, 98, 99, 100, 101, 102, 103, 104, 105, 106, 96, 97] (by decide +kernel) (by decide +kernel)
set_option maxRecDepth 20000 in
theorem gX6_ofContract_X0_isMet_n143 : GoodIn wsX6_ofContract (wsX0_isMet) := ggX6_ofContract_X0_isMet
theorem dX6_ofContract_0 : decode cX6_ofContract 0 = .ok (.aload_n 0, 1) := by decide +kernel
theorem dX6_ofContract_1 : decode cX6_ofContract 1 = .ok (.getfield 10, 3) := by decide +kernel
theorem dX6_ofContract_4 : decode cX6_ofContract 4 = .ok (.iload_n 1, 1) := by decide +kernel
theorem dX6_ofContract_5 : decode cX6_ofContract 5 = .ok (.invokevirtual 137, 3) := by decide +kernel
theorem dX6_ofContract_8 : decode cX6_ofContract 8 = .ok (.ifCond .ne 5, 3) := by decide +kernel
theorem dX6_ofContract_11 : decode cX6_ofContract 11 = .ok (.iconst (-1), 1) := by decide +kernel
theorem dX6_ofContract_12 : decode cX6_ofContract 12 = .ok (.ireturn, 1) := by decide +kernel
theorem dX6_ofContract_13 : decode cX6_ofContract 13 = .ok (.iload_n 2, 1) := by decide +kernel
theorem dX6_ofContract_14 : decode cX6_ofContract 14 = .ok (.ifCond .lt 8, 3) := by decide +kernel
theorem dX6_ofContract_17 : decode cX6_ofContract 17 = .ok (.iload_n 2, 1) := by decide +kernel
theorem dX6_ofContract_18 : decode cX6_ofContract 18 = .ok (.iconst 4, 1) := by decide +kernel
theorem dX6_ofContract_19 : decode cX6_ofContract 19 = .ok (.if_icmp .le 6, 3) := by decide +kernel
theorem dX6_ofContract_22 : decode cX6_ofContract 22 = .ok (.bipush (-2), 2) := by decide +kernel
theorem dX6_ofContract_24 : decode cX6_ofContract 24 = .ok (.ireturn, 1) := by decide +kernel
theorem dX6_ofContract_25 : decode cX6_ofContract 25 = .ok (.iload_n 2, 1) := by decide +kernel
theorem dX6_ofContract_26 : decode cX6_ofContract 26 = .ok (.iconst 4, 1) := by decide +kernel
theorem dX6_ofContract_27 : decode cX6_ofContract 27 = .ok (.if_icmp .ge 13, 3) := by decide +kernel
theorem dX6_ofContract_30 : decode cX6_ofContract 30 = .ok (.aload_n 0, 1) := by decide +kernel
theorem dX6_ofContract_31 : decode cX6_ofContract 31 = .ok (.getfield 10, 3) := by decide +kernel
theorem dX6_ofContract_34 : decode cX6_ofContract 34 = .ok (.iload_n 1, 1) := by decide +kernel
theorem dX6_ofContract_35 : decode cX6_ofContract 35 = .ok (.iload_n 2, 1) := by decide +kernel
theorem dX6_ofContract_36 : decode cX6_ofContract 36 = .ok (.invokevirtual 140, 3) := by decide +kernel
theorem dX6_ofContract_39 : decode cX6_ofContract 39 = .ok (.ireturn, 1) := by decide +kernel
theorem dX6_ofContract_40 : decode cX6_ofContract 40 = .ok (.aload_n 0, 1) := by decide +kernel
theorem dX6_ofContract_41 : decode cX6_ofContract 41 = .ok (.getfield 21, 3) := by decide +kernel
theorem dX6_ofContract_44 : decode cX6_ofContract 44 = .ok (.invokevirtual 99, 3) := by decide +kernel
theorem dX6_ofContract_47 : decode cX6_ofContract 47 = .ok (.aload_n 0, 1) := by decide +kernel
theorem dX6_ofContract_48 : decode cX6_ofContract 48 = .ok (.getfield 21, 3) := by decide +kernel
theorem dX6_ofContract_51 : decode cX6_ofContract 51 = .ok (.iload_n 1, 1) := by decide +kernel
theorem dX6_ofContract_52 : decode cX6_ofContract 52 = .ok (.invokevirtual 143, 3) := by decide +kernel
theorem dX6_ofContract_55 : decode cX6_ofContract 55 = .ok (.ifCond .eq 7, 3) := by decide +kernel
theorem dX6_ofContract_58 : decode cX6_ofContract 58 = .ok (.iconst 1, 1) := by decide +kernel
theorem dX6_ofContract_59 : decode cX6_ofContract 59 = .ok (.goto 4, 3) := by decide +kernel
theorem dX6_ofContract_62 : decode cX6_ofContract 62 = .ok (.iconst 0, 1) := by decide +kernel
theorem dX6_ofContract_63 : decode cX6_ofContract 63 = .ok (.ireturn, 1) := by decide +kernel
set_option maxRecDepth 20000 in
theorem ggX6_day_X0_follow : GoodIn wsX6_day wsX0_follow := goodIn_r _ [6, 7, 8, 9, 10, 11, 12, 13, 14, 15, 16, 17, 18, 4, 19, 20, 21, 22, 23, 24, 25, 26, 27, 28, 29, 30, 31, 32, 33, 34, 35, 36, 37, 38, 39, 40, 41, 42, 43, 44, 45, 46, 47, 48, 49, 50, 51, 52, 53, 54, 55, 56, 57, 58, 59, 60, 61, 62, 63, 64, 65, 66, 67, 68, 69, 70, 71, 72, 73, 74, 75, 76, 77, 78, 79, 80, 81, 121, 122, 123, 124, 125, 126, 127, 128, 129, 130, 131] (by decide +kernel) (by decide +kernel)
set_option maxRecDepth 20000 in
theorem gX6_day_X0_follow_n99 : GoodIn wsX6_day (wsX0_follow) := ggX6_day_X0_follow
set_option maxRecDepth 20000 in
theorem ggX6_day_X6_moneyOfDay : GoodIn wsX6_day wsX6_moneyOfDay := goodIn_r _ [85, 1, 86, 87, 88, 26, 89, 113, 114, 115, 116, 117, 118, 119, 120, 121, 122, 123, 124, 125, 126, 127, 128, 129] (by decide +kernel) (by decide +kernel)
set_option maxRecDepth 20000 in
theorem gX6_day_X6_moneyOfDay : GoodIn wsX6_day (wsV RX6 146 RX6 yX6_moneyOfDay wsX6_moneyOfDay) := goodIn_app (goodIn_of _ (by decide +kernel)) ggX6_day_X6_moneyOfDay
set_option maxRecDepth 20000 in
theorem ggX6_day_X6_sumOf : GoodIn wsX6_day wsX6_sumOf := goodIn_r _ [89] (by decide +kernel) (by decide +kernel)
set_option maxRecDepth 20000 in
theorem gX6_day_X6_sumOf : GoodIn wsX6_day (va_wsS RX6 149 yX6_sumOf wsX6_sumOf) := goodIn_app (goodIn_of _ (by decide +kernel)) ggX6_day_X6_sumOf
set_option maxRecDepth 20000 in
theorem ggX6_day_X0_levelInTheEnd : GoodIn wsX6_day wsX0_levelInTheEnd := goodIn_r _ [92, 23, 121, 122, 123, 124, 125, 126, 127, 128, 129] (by decide +kernel) (by decide +kernel)
set_option maxRecDepth 20000 in
theorem gX6_day_X0_levelInTheEnd_n153 : GoodIn wsX6_day (wsX0_levelInTheEnd) := ggX6_day_X0_levelInTheEnd
set_option maxRecDepth 20000 in
theorem ggX6_day_X0_hoursWith : GoodIn wsX6_day wsX0_hoursWith := goodIn_r _ [95, 96, 97, 98, 4, 99, 8, 100, 101, 102, 103, 104, 105, 106, 121, 122, 123, 124, 125, 126, 127, 128, 129] (by decide +kernel) (by decide +kernel)
set_option maxRecDepth 20000 in
theorem gX6_day_X0_hoursWith_n156 : GoodIn wsX6_day (wsX0_hoursWith) := ggX6_day_X0_hoursWith
set_option maxRecDepth 20000 in
theorem ggX6_day_X0_missedContracts : GoodIn wsX6_day wsX0_missedContracts := goodIn_r _ [109, 7, 22, 79, 12, 80, 81, 67, 68, 69, 70, 15, 71, 72, 73, 74, 121, 122, 123, 124, 125, 126, 127, 128, 129, 130, 131] (by decide +kernel) (by decide +kernel)
set_option maxRecDepth 20000 in
theorem gX6_day_X0_missedContracts_n159 : GoodIn wsX6_day (wsX0_missedContracts) := ggX6_day_X0_missedContracts
set_option maxRecDepth 20000 in
theorem ggX6_day_X2_settingOf : GoodIn wsX6_day wsX2_settingOf := goodIn_r _ [14, 15, 130, 131] (by decide +kernel) (by decide +kernel)
set_option maxRecDepth 20000 in
theorem gX6_day_X2_settingOf_n162 : GoodIn wsX6_day (wsX2_settingOf) := ggX6_day_X2_settingOf
set_option maxRecDepth 20000 in
theorem ggX6_day_X2_allInflows : GoodIn wsX6_day wsX2_allInflows := goodIn_r _ [112, 44, 45, 46, 12, 47, 15, 130, 131] (by decide +kernel) (by decide +kernel)
set_option maxRecDepth 20000 in
theorem gX6_day_X2_allInflows_n165 : GoodIn wsX6_day (wsX2_allInflows) := ggX6_day_X2_allInflows
theorem dX6_day_0 : decode cX6_day 0 = .ok (.aload_n 0, 1) := by decide +kernel
theorem dX6_day_1 : decode cX6_day 1 = .ok (.getfield 21, 3) := by decide +kernel
theorem dX6_day_4 : decode cX6_day 4 = .ok (.invokevirtual 99, 3) := by decide +kernel
theorem dX6_day_7 : decode cX6_day 7 = .ok (.iload_n 1, 1) := by decide +kernel
theorem dX6_day_8 : decode cX6_day 8 = .ok (.tableswitch 185 0 10 #[60, 65, 76, 87, 98, 109, 117, 126, 144, 152, 177], 60) := by decide +kernel
theorem dX6_day_68 : decode cX6_day 68 = .ok (.aload_n 0, 1) := by decide +kernel
theorem dX6_day_69 : decode cX6_day 69 = .ok (.invokevirtual 146, 3) := by decide +kernel
theorem dX6_day_72 : decode cX6_day 72 = .ok (.ireturn, 1) := by decide +kernel
theorem dX6_day_73 : decode cX6_day 73 = .ok (.aload_n 0, 1) := by decide +kernel
theorem dX6_day_74 : decode cX6_day 74 = .ok (.getfield 21, 3) := by decide +kernel
theorem dX6_day_77 : decode cX6_day 77 = .ok (.getfield 111, 3) := by decide +kernel
theorem dX6_day_80 : decode cX6_day 80 = .ok (.invokestatic 149, 3) := by decide +kernel
theorem dX6_day_83 : decode cX6_day 83 = .ok (.ireturn, 1) := by decide +kernel
theorem dX6_day_84 : decode cX6_day 84 = .ok (.aload_n 0, 1) := by decide +kernel
theorem dX6_day_85 : decode cX6_day 85 = .ok (.getfield 21, 3) := by decide +kernel
theorem dX6_day_88 : decode cX6_day 88 = .ok (.getfield 115, 3) := by decide +kernel
theorem dX6_day_91 : decode cX6_day 91 = .ok (.invokestatic 149, 3) := by decide +kernel
theorem dX6_day_94 : decode cX6_day 94 = .ok (.ireturn, 1) := by decide +kernel
theorem dX6_day_95 : decode cX6_day 95 = .ok (.aload_n 0, 1) := by decide +kernel
theorem dX6_day_96 : decode cX6_day 96 = .ok (.getfield 21, 3) := by decide +kernel
theorem dX6_day_99 : decode cX6_day 99 = .ok (.getfield 118, 3) := by decide +kernel
theorem dX6_day_102 : decode cX6_day 102 = .ok (.invokestatic 149, 3) := by decide +kernel
theorem dX6_day_105 : decode cX6_day 105 = .ok (.ireturn, 1) := by decide +kernel
theorem dX6_day_106 : decode cX6_day 106 = .ok (.aload_n 0, 1) := by decide +kernel
theorem dX6_day_107 : decode cX6_day 107 = .ok (.getfield 21, 3) := by decide +kernel
theorem dX6_day_110 : decode cX6_day 110 = .ok (.getfield 121, 3) := by decide +kernel
theorem dX6_day_113 : decode cX6_day 113 = .ok (.invokestatic 149, 3) := by decide +kernel
theorem dX6_day_116 : decode cX6_day 116 = .ok (.ireturn, 1) := by decide +kernel
theorem dX6_day_117 : decode cX6_day 117 = .ok (.aload_n 0, 1) := by decide +kernel
theorem dX6_day_118 : decode cX6_day 118 = .ok (.getfield 21, 3) := by decide +kernel
theorem dX6_day_121 : decode cX6_day 121 = .ok (.invokevirtual 153, 3) := by decide +kernel
theorem dX6_day_124 : decode cX6_day 124 = .ok (.ireturn, 1) := by decide +kernel
theorem dX6_day_125 : decode cX6_day 125 = .ok (.aload_n 0, 1) := by decide +kernel
theorem dX6_day_126 : decode cX6_day 126 = .ok (.getfield 21, 3) := by decide +kernel
theorem dX6_day_129 : decode cX6_day 129 = .ok (.iconst 1, 1) := by decide +kernel
theorem dX6_day_130 : decode cX6_day 130 = .ok (.invokevirtual 156, 3) := by decide +kernel
theorem dX6_day_133 : decode cX6_day 133 = .ok (.ireturn, 1) := by decide +kernel
theorem dX6_day_134 : decode cX6_day 134 = .ok (.aload_n 0, 1) := by decide +kernel
theorem dX6_day_135 : decode cX6_day 135 = .ok (.getfield 21, 3) := by decide +kernel
theorem dX6_day_138 : decode cX6_day 138 = .ok (.iconst 1, 1) := by decide +kernel
theorem dX6_day_139 : decode cX6_day 139 = .ok (.invokevirtual 156, 3) := by decide +kernel
theorem dX6_day_142 : decode cX6_day 142 = .ok (.aload_n 0, 1) := by decide +kernel
theorem dX6_day_143 : decode cX6_day 143 = .ok (.getfield 21, 3) := by decide +kernel
theorem dX6_day_146 : decode cX6_day 146 = .ok (.iconst 2, 1) := by decide +kernel
theorem dX6_day_147 : decode cX6_day 147 = .ok (.invokevirtual 156, 3) := by decide +kernel
theorem dX6_day_150 : decode cX6_day 150 = .ok (.iadd, 1) := by decide +kernel
theorem dX6_day_151 : decode cX6_day 151 = .ok (.ireturn, 1) := by decide +kernel
theorem dX6_day_152 : decode cX6_day 152 = .ok (.aload_n 0, 1) := by decide +kernel
theorem dX6_day_153 : decode cX6_day 153 = .ok (.getfield 21, 3) := by decide +kernel
theorem dX6_day_156 : decode cX6_day 156 = .ok (.invokevirtual 159, 3) := by decide +kernel
theorem dX6_day_159 : decode cX6_day 159 = .ok (.ireturn, 1) := by decide +kernel
theorem dX6_day_160 : decode cX6_day 160 = .ok (.aload_n 0, 1) := by decide +kernel
theorem dX6_day_161 : decode cX6_day 161 = .ok (.getfield 21, 3) := by decide +kernel
theorem dX6_day_164 : decode cX6_day 164 = .ok (.invokevirtual 153, 3) := by decide +kernel
theorem dX6_day_167 : decode cX6_day 167 = .ok (.aload_n 0, 1) := by decide +kernel
theorem dX6_day_168 : decode cX6_day 168 = .ok (.getfield 10, 3) := by decide +kernel
theorem dX6_day_171 : decode cX6_day 171 = .ok (.bipush 8, 2) := by decide +kernel
theorem dX6_day_173 : decode cX6_day 173 = .ok (.invokevirtual 162, 3) := by decide +kernel
theorem dX6_day_176 : decode cX6_day 176 = .ok (.if_icmp .lt 7, 3) := by decide +kernel
theorem dX6_day_179 : decode cX6_day 179 = .ok (.iconst 1, 1) := by decide +kernel
theorem dX6_day_180 : decode cX6_day 180 = .ok (.goto 4, 3) := by decide +kernel
theorem dX6_day_183 : decode cX6_day 183 = .ok (.iconst 0, 1) := by decide +kernel
theorem dX6_day_184 : decode cX6_day 184 = .ok (.ireturn, 1) := by decide +kernel
theorem dX6_day_185 : decode cX6_day 185 = .ok (.aload_n 0, 1) := by decide +kernel
theorem dX6_day_186 : decode cX6_day 186 = .ok (.getfield 10, 3) := by decide +kernel
theorem dX6_day_189 : decode cX6_day 189 = .ok (.invokevirtual 165, 3) := by decide +kernel
theorem dX6_day_192 : decode cX6_day 192 = .ok (.ireturn, 1) := by decide +kernel
theorem dX6_day_193 : decode cX6_day 193 = .ok (.bipush (-2), 2) := by decide +kernel
theorem dX6_day_195 : decode cX6_day 195 = .ok (.ireturn, 1) := by decide +kernel
set_option maxRecDepth 20000 in
theorem ggX6_troubled_X0_follow : GoodIn wsX6_troubled wsX0_follow := goodIn_r _ [5, 6, 7, 8, 9, 10, 11, 12, 13, 14, 15, 16, 17, 3, 18, 19, 20, 21, 22, 23, 24, 25, 26, 27, 28, 29, 30, 31, 32, 33, 34, 35, 36, 37, 38, 39, 40, 41, 42, 43, 44, 45, 46, 47, 48, 49, 50, 51, 52, 53, 54, 55, 56, 57, 58, 59, 60, 61, 62, 63, 64, 65, 66, 67, 68, 69, 70, 71, 72, 73, 74, 75, 76, 77, 78, 79, 80, 92, 93, 94, 95, 96, 97, 98, 99, 100, 101, 102] (by decide +kernel) (by decide +kernel)
set_option maxRecDepth 20000 in
theorem gX6_troubled_X0_follow_n99 : GoodIn wsX6_troubled (wsX0_follow) := ggX6_troubled_X0_follow
set_option maxRecDepth 20000 in
theorem ggX6_troubled_X0_setOf : GoodIn wsX6_troubled wsX0_setOf := goodIn_r _ [83, 7, 92, 93, 94, 95, 96, 97, 98, 99, 100] (by decide +kernel) (by decide +kernel)
set_option maxRecDepth 20000 in
theorem gX6_troubled_X0_setOf_n168 : GoodIn wsX6_troubled (wsX0_setOf) := ggX6_troubled_X0_setOf
theorem dX6_troubled_0 : decode cX6_troubled 0 = .ok (.iload_n 1, 1) := by decide +kernel
theorem dX6_troubled_1 : decode cX6_troubled 1 = .ok (.iconst 1, 1) := by decide +kernel
theorem dX6_troubled_2 : decode cX6_troubled 2 = .ok (.if_icmp .lt 8, 3) := by decide +kernel
theorem dX6_troubled_5 : decode cX6_troubled 5 = .ok (.iload_n 1, 1) := by decide +kernel
theorem dX6_troubled_6 : decode cX6_troubled 6 = .ok (.iconst 4, 1) := by decide +kernel
theorem dX6_troubled_7 : decode cX6_troubled 7 = .ok (.if_icmp .le 6, 3) := by decide +kernel
theorem dX6_troubled_10 : decode cX6_troubled 10 = .ok (.bipush (-2), 2) := by decide +kernel
theorem dX6_troubled_12 : decode cX6_troubled 12 = .ok (.ireturn, 1) := by decide +kernel
theorem dX6_troubled_13 : decode cX6_troubled 13 = .ok (.aload_n 0, 1) := by decide +kernel
theorem dX6_troubled_14 : decode cX6_troubled 14 = .ok (.getfield 21, 3) := by decide +kernel
theorem dX6_troubled_17 : decode cX6_troubled 17 = .ok (.invokevirtual 99, 3) := by decide +kernel
theorem dX6_troubled_20 : decode cX6_troubled 20 = .ok (.aload_n 0, 1) := by decide +kernel
theorem dX6_troubled_21 : decode cX6_troubled 21 = .ok (.getfield 21, 3) := by decide +kernel
theorem dX6_troubled_24 : decode cX6_troubled 24 = .ok (.iload_n 1, 1) := by decide +kernel
theorem dX6_troubled_25 : decode cX6_troubled 25 = .ok (.invokevirtual 168, 3) := by decide +kernel
theorem dX6_troubled_28 : decode cX6_troubled 28 = .ok (.ireturn, 1) := by decide +kernel
set_option maxRecDepth 20000 in
theorem ggX6_count_X2_settingOf : GoodIn wsX6_count wsX2_settingOf := goodIn_r _ [7, 8, 25, 26] (by decide +kernel) (by decide +kernel)
set_option maxRecDepth 20000 in
theorem gX6_count_X2_settingOf_n162 : GoodIn wsX6_count (wsX2_settingOf) := ggX6_count_X2_settingOf
set_option maxRecDepth 20000 in
theorem ggX6_count_X2_contracts : GoodIn wsX6_count wsX2_contracts := goodIn_r _ [11, 8, 25, 26] (by decide +kernel) (by decide +kernel)
set_option maxRecDepth 20000 in
theorem gX6_count_X2_contracts_n171 : GoodIn wsX6_count (wsX2_contracts) := ggX6_count_X2_contracts
theorem dX6_count_0 : decode cX6_count 0 = .ok (.iload_n 1, 1) := by decide +kernel
theorem dX6_count_1 : decode cX6_count 1 = .ok (.ifCond .lt 18, 3) := by decide +kernel
theorem dX6_count_4 : decode cX6_count 4 = .ok (.iload_n 1, 1) := by decide +kernel
theorem dX6_count_5 : decode cX6_count 5 = .ok (.bipush 10, 2) := by decide +kernel
theorem dX6_count_7 : decode cX6_count 7 = .ok (.if_icmp .ge 12, 3) := by decide +kernel
