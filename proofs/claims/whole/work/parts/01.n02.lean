theorem dX1_recordUnlessError_1 : decode cX1_recordUnlessError 1 = .ok (.ifCond .lt 31, 3) := by decide +kernel
theorem dX1_recordUnlessError_4 : decode cX1_recordUnlessError 4 = .ok (.aload_n 0, 1) := by decide +kernel
theorem dX1_recordUnlessError_5 : decode cX1_recordUnlessError 5 = .ok (.aload_n 0, 1) := by decide +kernel
theorem dX1_recordUnlessError_6 : decode cX1_recordUnlessError 6 = .ok (.getfield 18, 3) := by decide +kernel
theorem dX1_recordUnlessError_9 : decode cX1_recordUnlessError 9 = .ok (.iconst 1, 1) := by decide +kernel
theorem dX1_recordUnlessError_10 : decode cX1_recordUnlessError 10 = .ok (.iadd, 1) := by decide +kernel
theorem dX1_recordUnlessError_11 : decode cX1_recordUnlessError 11 = .ok (.bipush 7, 2) := by decide +kernel
theorem dX1_recordUnlessError_13 : decode cX1_recordUnlessError 13 = .ok (.irem, 1) := by decide +kernel
theorem dX1_recordUnlessError_14 : decode cX1_recordUnlessError 14 = .ok (.putfield 18, 3) := by decide +kernel
theorem dX1_recordUnlessError_17 : decode cX1_recordUnlessError 17 = .ok (.aload_n 0, 1) := by decide +kernel
theorem dX1_recordUnlessError_18 : decode cX1_recordUnlessError 18 = .ok (.aload_n 0, 1) := by decide +kernel
theorem dX1_recordUnlessError_19 : decode cX1_recordUnlessError 19 = .ok (.getfield 22, 3) := by decide +kernel
theorem dX1_recordUnlessError_22 : decode cX1_recordUnlessError 22 = .ok (.iconst 1, 1) := by decide +kernel
theorem dX1_recordUnlessError_23 : decode cX1_recordUnlessError 23 = .ok (.iadd, 1) := by decide +kernel
theorem dX1_recordUnlessError_24 : decode cX1_recordUnlessError 24 = .ok (.bipush 6, 2) := by decide +kernel
theorem dX1_recordUnlessError_26 : decode cX1_recordUnlessError 26 = .ok (.invokestatic 29, 3) := by decide +kernel
theorem dX1_recordUnlessError_29 : decode cX1_recordUnlessError 29 = .ok (.putfield 22, 3) := by decide +kernel
theorem dX1_recordUnlessError_32 : decode cX1_recordUnlessError 32 = .ok (.iload_n 1, 1) := by decide +kernel
theorem dX1_recordUnlessError_33 : decode cX1_recordUnlessError 33 = .ok (.ireturn, 1) := by decide +kernel
set_option maxRecDepth 20000 in
theorem ggX1_takeBack_X2_copyFrom : GoodIn wsX1_takeBack wsX2_copyFrom := goodIn_r _ [7, 8, 9, 10, 11, 12, 13, 14, 15, 16, 17, 18, 19, 20, 24, 25] (by decide +kernel) (by decide +kernel)
set_option maxRecDepth 20000 in
theorem gX1_takeBack_X2_copyFrom_n35 : GoodIn wsX1_takeBack (wsX2_copyFrom) := ggX1_takeBack_X2_copyFrom
theorem dX1_takeBack_0 : decode cX1_takeBack 0 = .ok (.aload_n 0, 1) := by decide +kernel
theorem dX1_takeBack_1 : decode cX1_takeBack 1 = .ok (.getfield 22, 3) := by decide +kernel
theorem dX1_takeBack_4 : decode cX1_takeBack 4 = .ok (.ifCond .ne 6, 3) := by decide +kernel
theorem dX1_takeBack_7 : decode cX1_takeBack 7 = .ok (.bipush (-5), 2) := by decide +kernel
theorem dX1_takeBack_9 : decode cX1_takeBack 9 = .ok (.ireturn, 1) := by decide +kernel
theorem dX1_takeBack_10 : decode cX1_takeBack 10 = .ok (.aload_n 0, 1) := by decide +kernel
theorem dX1_takeBack_11 : decode cX1_takeBack 11 = .ok (.aload_n 0, 1) := by decide +kernel
theorem dX1_takeBack_12 : decode cX1_takeBack 12 = .ok (.getfield 18, 3) := by decide +kernel
theorem dX1_takeBack_15 : decode cX1_takeBack 15 = .ok (.bipush 7, 2) := by decide +kernel
theorem dX1_takeBack_17 : decode cX1_takeBack 17 = .ok (.iadd, 1) := by decide +kernel
theorem dX1_takeBack_18 : decode cX1_takeBack 18 = .ok (.iconst 1, 1) := by decide +kernel
theorem dX1_takeBack_19 : decode cX1_takeBack 19 = .ok (.isub, 1) := by decide +kernel
theorem dX1_takeBack_20 : decode cX1_takeBack 20 = .ok (.bipush 7, 2) := by decide +kernel
theorem dX1_takeBack_22 : decode cX1_takeBack 22 = .ok (.irem, 1) := by decide +kernel
theorem dX1_takeBack_23 : decode cX1_takeBack 23 = .ok (.putfield 18, 3) := by decide +kernel
theorem dX1_takeBack_26 : decode cX1_takeBack 26 = .ok (.aload_n 0, 1) := by decide +kernel
theorem dX1_takeBack_27 : decode cX1_takeBack 27 = .ok (.dup, 1) := by decide +kernel
theorem dX1_takeBack_28 : decode cX1_takeBack 28 = .ok (.getfield 22, 3) := by decide +kernel
theorem dX1_takeBack_31 : decode cX1_takeBack 31 = .ok (.iconst 1, 1) := by decide +kernel
theorem dX1_takeBack_32 : decode cX1_takeBack 32 = .ok (.isub, 1) := by decide +kernel
theorem dX1_takeBack_33 : decode cX1_takeBack 33 = .ok (.putfield 22, 3) := by decide +kernel
theorem dX1_takeBack_36 : decode cX1_takeBack 36 = .ok (.aload_n 0, 1) := by decide +kernel
theorem dX1_takeBack_37 : decode cX1_takeBack 37 = .ok (.getfield 18, 3) := by decide +kernel
theorem dX1_takeBack_40 : decode cX1_takeBack 40 = .ok (.ifCond .lt 25, 3) := by decide +kernel
theorem dX1_takeBack_43 : decode cX1_takeBack 43 = .ok (.aload_n 0, 1) := by decide +kernel
theorem dX1_takeBack_44 : decode cX1_takeBack 44 = .ok (.getfield 18, 3) := by decide +kernel
theorem dX1_takeBack_47 : decode cX1_takeBack 47 = .ok (.bipush 7, 2) := by decide +kernel
theorem dX1_takeBack_49 : decode cX1_takeBack 49 = .ok (.if_icmp .ge 16, 3) := by decide +kernel
theorem dX1_takeBack_52 : decode cX1_takeBack 52 = .ok (.aload_n 1, 1) := by decide +kernel
theorem dX1_takeBack_53 : decode cX1_takeBack 53 = .ok (.aload_n 0, 1) := by decide +kernel
theorem dX1_takeBack_54 : decode cX1_takeBack 54 = .ok (.getfield 15, 3) := by decide +kernel
theorem dX1_takeBack_57 : decode cX1_takeBack 57 = .ok (.aload_n 0, 1) := by decide +kernel
theorem dX1_takeBack_58 : decode cX1_takeBack 58 = .ok (.getfield 18, 3) := by decide +kernel
theorem dX1_takeBack_61 : decode cX1_takeBack 61 = .ok (.aaload, 1) := by decide +kernel
theorem dX1_takeBack_62 : decode cX1_takeBack 62 = .ok (.invokevirtual 35, 3) := by decide +kernel
theorem dX1_takeBack_65 : decode cX1_takeBack 65 = .ok (.aload_n 0, 1) := by decide +kernel
theorem dX1_takeBack_66 : decode cX1_takeBack 66 = .ok (.getfield 22, 3) := by decide +kernel
theorem dX1_takeBack_69 : decode cX1_takeBack 69 = .ok (.ireturn, 1) := by decide +kernel
set_option maxRecDepth 20000 in
theorem ggX2_init_X6_copyRow : GoodIn wsX2_init wsX6_copyRow := goodIn_r _ [10, 11, 12, 13, 14, 15, 16, 17, 18] (by decide +kernel) (by decide +kernel)
set_option maxRecDepth 20000 in
theorem gX2_init_X6_copyRow_n22 : GoodIn wsX2_init (wsX6_copyRow) := ggX2_init_X6_copyRow
theorem dX2_init_0 : decode cX2_init 0 = .ok (.aload_n 0, 1) := by decide +kernel
theorem dX2_init_1 : decode cX2_init 1 = .ok (.invokespecial 5, 3) := by decide +kernel
theorem dX2_init_4 : decode cX2_init 4 = .ok (.aload_n 0, 1) := by decide +kernel
theorem dX2_init_5 : decode cX2_init 5 = .ok (.bipush 115, 2) := by decide +kernel
theorem dX2_init_7 : decode cX2_init 7 = .ok (.newarray .int, 2) := by decide +kernel
theorem dX2_init_9 : decode cX2_init 9 = .ok (.putfield 11, 3) := by decide +kernel
theorem dX2_init_12 : decode cX2_init 12 = .ok (.aload_n 0, 1) := by decide +kernel
theorem dX2_init_13 : decode cX2_init 13 = .ok (.iconst 0, 1) := by decide +kernel
theorem dX2_init_14 : decode cX2_init 14 = .ok (.putfield 15, 3) := by decide +kernel
theorem dX2_init_17 : decode cX2_init 17 = .ok (.getstatic 19, 3) := by decide +kernel
theorem dX2_init_20 : decode cX2_init 20 = .ok (.aload_n 0, 1) := by decide +kernel
theorem dX2_init_21 : decode cX2_init 21 = .ok (.getfield 11, 3) := by decide +kernel
theorem dX2_init_24 : decode cX2_init 24 = .ok (.invokestatic 22, 3) := by decide +kernel
theorem dX2_init_27 : decode cX2_init 27 = .ok (.iconst 0, 1) := by decide +kernel
theorem dX2_init_28 : decode cX2_init 28 = .ok (.istore_n 1, 1) := by decide +kernel
theorem dX2_init_29 : decode cX2_init 29 = .ok (.iload_n 1, 1) := by decide +kernel
theorem dX2_init_30 : decode cX2_init 30 = .ok (.bipush 24, 2) := by decide +kernel
theorem dX2_init_32 : decode cX2_init 32 = .ok (.if_icmp .ge 30, 3) := by decide +kernel
theorem dX2_init_35 : decode cX2_init 35 = .ok (.aload_n 0, 1) := by decide +kernel
theorem dX2_init_36 : decode cX2_init 36 = .ok (.getfield 11, 3) := by decide +kernel
theorem dX2_init_39 : decode cX2_init 39 = .ok (.bipush 10, 2) := by decide +kernel
theorem dX2_init_41 : decode cX2_init 41 = .ok (.iload_n 1, 1) := by decide +kernel
theorem dX2_init_42 : decode cX2_init 42 = .ok (.iadd, 1) := by decide +kernel
theorem dX2_init_43 : decode cX2_init 43 = .ok (.bipush 100, 2) := by decide +kernel
theorem dX2_init_45 : decode cX2_init 45 = .ok (.iastore, 1) := by decide +kernel
theorem dX2_init_46 : decode cX2_init 46 = .ok (.aload_n 0, 1) := by decide +kernel
theorem dX2_init_47 : decode cX2_init 47 = .ok (.getfield 11, 3) := by decide +kernel
theorem dX2_init_50 : decode cX2_init 50 = .ok (.bipush 34, 2) := by decide +kernel
theorem dX2_init_52 : decode cX2_init 52 = .ok (.iload_n 1, 1) := by decide +kernel
theorem dX2_init_53 : decode cX2_init 53 = .ok (.iadd, 1) := by decide +kernel
theorem dX2_init_54 : decode cX2_init 54 = .ok (.iconst 3, 1) := by decide +kernel
theorem dX2_init_55 : decode cX2_init 55 = .ok (.iastore, 1) := by decide +kernel
theorem dX2_init_56 : decode cX2_init 56 = .ok (.iinc 1 1, 3) := by decide +kernel
theorem dX2_init_59 : decode cX2_init 59 = .ok (.goto (-30), 3) := by decide +kernel
theorem dX2_init_62 : decode cX2_init 62 = .ok (.return_, 1) := by decide +kernel
set_option maxRecDepth 20000 in
theorem ggX2_copyTo_X6_copyRow : GoodIn wsX2_copyTo wsX6_copyRow := goodIn_r _ [4, 5, 6, 7, 8, 9, 10, 11, 12] (by decide +kernel) (by decide +kernel)
set_option maxRecDepth 20000 in
theorem gX2_copyTo_X6_copyRow_n22 : GoodIn wsX2_copyTo (wsX6_copyRow) := ggX2_copyTo_X6_copyRow
theorem dX2_copyTo_0 : decode cX2_copyTo 0 = .ok (.aload_n 0, 1) := by decide +kernel
theorem dX2_copyTo_1 : decode cX2_copyTo 1 = .ok (.getfield 11, 3) := by decide +kernel
theorem dX2_copyTo_4 : decode cX2_copyTo 4 = .ok (.aload_n 1, 1) := by decide +kernel
theorem dX2_copyTo_5 : decode cX2_copyTo 5 = .ok (.invokestatic 22, 3) := by decide +kernel
theorem dX2_copyTo_8 : decode cX2_copyTo 8 = .ok (.return_, 1) := by decide +kernel
set_option maxRecDepth 20000 in
theorem ggX2_copyFrom_X6_copyRow : GoodIn wsX2_copyFrom wsX6_copyRow := goodIn_r _ [5, 6, 7, 8, 9, 10, 11, 12, 13] (by decide +kernel) (by decide +kernel)
set_option maxRecDepth 20000 in
theorem gX2_copyFrom_X6_copyRow_n22 : GoodIn wsX2_copyFrom (wsX6_copyRow) := ggX2_copyFrom_X6_copyRow
theorem dX2_copyFrom_0 : decode cX2_copyFrom 0 = .ok (.aload_n 1, 1) := by decide +kernel
theorem dX2_copyFrom_1 : decode cX2_copyFrom 1 = .ok (.aload_n 0, 1) := by decide +kernel
theorem dX2_copyFrom_2 : decode cX2_copyFrom 2 = .ok (.getfield 11, 3) := by decide +kernel
theorem dX2_copyFrom_5 : decode cX2_copyFrom 5 = .ok (.invokestatic 22, 3) := by decide +kernel
theorem dX2_copyFrom_8 : decode cX2_copyFrom 8 = .ok (.aload_n 0, 1) := by decide +kernel
theorem dX2_copyFrom_9 : decode cX2_copyFrom 9 = .ok (.dup, 1) := by decide +kernel
theorem dX2_copyFrom_10 : decode cX2_copyFrom 10 = .ok (.getfield 15, 3) := by decide +kernel
theorem dX2_copyFrom_13 : decode cX2_copyFrom 13 = .ok (.iconst 1, 1) := by decide +kernel
theorem dX2_copyFrom_14 : decode cX2_copyFrom 14 = .ok (.iadd, 1) := by decide +kernel
theorem dX2_copyFrom_15 : decode cX2_copyFrom 15 = .ok (.putfield 15, 3) := by decide +kernel
theorem dX2_copyFrom_18 : decode cX2_copyFrom 18 = .ok (.return_, 1) := by decide +kernel
theorem dX2_settingOf_0 : decode cX2_settingOf 0 = .ok (.iload_n 1, 1) := by decide +kernel
theorem dX2_settingOf_1 : decode cX2_settingOf 1 = .ok (.ifCond .lt 18, 3) := by decide +kernel
theorem dX2_settingOf_4 : decode cX2_settingOf 4 = .ok (.iload_n 1, 1) := by decide +kernel
theorem dX2_settingOf_5 : decode cX2_settingOf 5 = .ok (.bipush 10, 2) := by decide +kernel
theorem dX2_settingOf_7 : decode cX2_settingOf 7 = .ok (.if_icmp .ge 12, 3) := by decide +kernel
theorem dX2_settingOf_10 : decode cX2_settingOf 10 = .ok (.aload_n 0, 1) := by decide +kernel
theorem dX2_settingOf_11 : decode cX2_settingOf 11 = .ok (.getfield 11, 3) := by decide +kernel
theorem dX2_settingOf_14 : decode cX2_settingOf 14 = .ok (.iload_n 1, 1) := by decide +kernel
theorem dX2_settingOf_15 : decode cX2_settingOf 15 = .ok (.iaload, 1) := by decide +kernel
theorem dX2_settingOf_16 : decode cX2_settingOf 16 = .ok (.goto 4, 3) := by decide +kernel
theorem dX2_settingOf_19 : decode cX2_settingOf 19 = .ok (.iconst 0, 1) := by decide +kernel
theorem dX2_settingOf_20 : decode cX2_settingOf 20 = .ok (.ireturn, 1) := by decide +kernel
theorem dX2_priceOf_0 : decode cX2_priceOf 0 = .ok (.iload_n 1, 1) := by decide +kernel
theorem dX2_priceOf_1 : decode cX2_priceOf 1 = .ok (.ifCond .lt 21, 3) := by decide +kernel
theorem dX2_priceOf_4 : decode cX2_priceOf 4 = .ok (.iload_n 1, 1) := by decide +kernel
theorem dX2_priceOf_5 : decode cX2_priceOf 5 = .ok (.bipush 24, 2) := by decide +kernel
theorem dX2_priceOf_7 : decode cX2_priceOf 7 = .ok (.if_icmp .ge 15, 3) := by decide +kernel
theorem dX2_priceOf_10 : decode cX2_priceOf 10 = .ok (.aload_n 0, 1) := by decide +kernel
theorem dX2_priceOf_11 : decode cX2_priceOf 11 = .ok (.getfield 11, 3) := by decide +kernel
theorem dX2_priceOf_14 : decode cX2_priceOf 14 = .ok (.bipush 10, 2) := by decide +kernel
theorem dX2_priceOf_16 : decode cX2_priceOf 16 = .ok (.iload_n 1, 1) := by decide +kernel
theorem dX2_priceOf_17 : decode cX2_priceOf 17 = .ok (.iadd, 1) := by decide +kernel
theorem dX2_priceOf_18 : decode cX2_priceOf 18 = .ok (.iaload, 1) := by decide +kernel
theorem dX2_priceOf_19 : decode cX2_priceOf 19 = .ok (.goto 4, 3) := by decide +kernel
theorem dX2_priceOf_22 : decode cX2_priceOf 22 = .ok (.iconst 0, 1) := by decide +kernel
theorem dX2_priceOf_23 : decode cX2_priceOf 23 = .ok (.ireturn, 1) := by decide +kernel
theorem dX2_inflowOf_0 : decode cX2_inflowOf 0 = .ok (.iload_n 1, 1) := by decide +kernel
theorem dX2_inflowOf_1 : decode cX2_inflowOf 1 = .ok (.ifCond .lt 21, 3) := by decide +kernel
theorem dX2_inflowOf_4 : decode cX2_inflowOf 4 = .ok (.iload_n 1, 1) := by decide +kernel
theorem dX2_inflowOf_5 : decode cX2_inflowOf 5 = .ok (.bipush 24, 2) := by decide +kernel
theorem dX2_inflowOf_7 : decode cX2_inflowOf 7 = .ok (.if_icmp .ge 15, 3) := by decide +kernel
theorem dX2_inflowOf_10 : decode cX2_inflowOf 10 = .ok (.aload_n 0, 1) := by decide +kernel
theorem dX2_inflowOf_11 : decode cX2_inflowOf 11 = .ok (.getfield 11, 3) := by decide +kernel
theorem dX2_inflowOf_14 : decode cX2_inflowOf 14 = .ok (.bipush 34, 2) := by decide +kernel
theorem dX2_inflowOf_16 : decode cX2_inflowOf 16 = .ok (.iload_n 1, 1) := by decide +kernel
theorem dX2_inflowOf_17 : decode cX2_inflowOf 17 = .ok (.iadd, 1) := by decide +kernel
theorem dX2_inflowOf_18 : decode cX2_inflowOf 18 = .ok (.iaload, 1) := by decide +kernel
theorem dX2_inflowOf_19 : decode cX2_inflowOf 19 = .ok (.goto 4, 3) := by decide +kernel
theorem dX2_inflowOf_22 : decode cX2_inflowOf 22 = .ok (.iconst 0, 1) := by decide +kernel
theorem dX2_inflowOf_23 : decode cX2_inflowOf 23 = .ok (.ireturn, 1) := by decide +kernel
theorem dX2_planOf_0 : decode cX2_planOf 0 = .ok (.iload_n 1, 1) := by decide +kernel
theorem dX2_planOf_1 : decode cX2_planOf 1 = .ok (.ifCond .lt 21, 3) := by decide +kernel
theorem dX2_planOf_4 : decode cX2_planOf 4 = .ok (.iload_n 1, 1) := by decide +kernel
theorem dX2_planOf_5 : decode cX2_planOf 5 = .ok (.bipush 24, 2) := by decide +kernel
theorem dX2_planOf_7 : decode cX2_planOf 7 = .ok (.if_icmp .ge 15, 3) := by decide +kernel
theorem dX2_planOf_10 : decode cX2_planOf 10 = .ok (.aload_n 0, 1) := by decide +kernel
theorem dX2_planOf_11 : decode cX2_planOf 11 = .ok (.getfield 11, 3) := by decide +kernel
theorem dX2_planOf_14 : decode cX2_planOf 14 = .ok (.bipush 58, 2) := by decide +kernel
theorem dX2_planOf_16 : decode cX2_planOf 16 = .ok (.iload_n 1, 1) := by decide +kernel
theorem dX2_planOf_17 : decode cX2_planOf 17 = .ok (.iadd, 1) := by decide +kernel
theorem dX2_planOf_18 : decode cX2_planOf 18 = .ok (.iaload, 1) := by decide +kernel
theorem dX2_planOf_19 : decode cX2_planOf 19 = .ok (.goto 4, 3) := by decide +kernel
theorem dX2_planOf_22 : decode cX2_planOf 22 = .ok (.iconst 0, 1) := by decide +kernel
theorem dX2_planOf_23 : decode cX2_planOf 23 = .ok (.ireturn, 1) := by decide +kernel
theorem dX2_contracts_0 : decode cX2_contracts 0 = .ok (.aload_n 0, 1) := by decide +kernel
theorem dX2_contracts_1 : decode cX2_contracts 1 = .ok (.getfield 11, 3) := by decide +kernel
theorem dX2_contracts_4 : decode cX2_contracts 4 = .ok (.bipush 114, 2) := by decide +kernel
theorem dX2_contracts_6 : decode cX2_contracts 6 = .ok (.iaload, 1) := by decide +kernel
theorem dX2_contracts_7 : decode cX2_contracts 7 = .ok (.ireturn, 1) := by decide +kernel
set_option maxRecDepth 20000 in
theorem ggX2_isContract_X2_contracts : GoodIn wsX2_isContract wsX2_contracts := goodIn_r _ [5, 6, 7, 8] (by decide +kernel) (by decide +kernel)
set_option maxRecDepth 20000 in
theorem gX2_isContract_X2_contracts : GoodIn wsX2_isContract (wsV RX2 26 RX2 yX2_contracts wsX2_contracts) := goodIn_app (goodIn_of _ (by decide +kernel)) ggX2_isContract_X2_contracts
theorem dX2_isContract_0 : decode cX2_isContract 0 = .ok (.iload_n 1, 1) := by decide +kernel
theorem dX2_isContract_1 : decode cX2_isContract 1 = .ok (.ifCond .lt 15, 3) := by decide +kernel
theorem dX2_isContract_4 : decode cX2_isContract 4 = .ok (.iload_n 1, 1) := by decide +kernel
theorem dX2_isContract_5 : decode cX2_isContract 5 = .ok (.aload_n 0, 1) := by decide +kernel
theorem dX2_isContract_6 : decode cX2_isContract 6 = .ok (.invokevirtual 26, 3) := by decide +kernel
theorem dX2_isContract_9 : decode cX2_isContract 9 = .ok (.if_icmp .ge 7, 3) := by decide +kernel
theorem dX2_isContract_12 : decode cX2_isContract 12 = .ok (.iconst 1, 1) := by decide +kernel
theorem dX2_isContract_13 : decode cX2_isContract 13 = .ok (.goto 4, 3) := by decide +kernel
theorem dX2_isContract_16 : decode cX2_isContract 16 = .ok (.iconst 0, 1) := by decide +kernel
theorem dX2_isContract_17 : decode cX2_isContract 17 = .ok (.ireturn, 1) := by decide +kernel
theorem dX2_contractPart_0 : decode cX2_contractPart 0 = .ok (.iload_n 1, 1) := by decide +kernel
theorem dX2_contractPart_1 : decode cX2_contractPart 1 = .ok (.ifCond .lt 22, 3) := by decide +kernel
theorem dX2_contractPart_4 : decode cX2_contractPart 4 = .ok (.iload_n 1, 1) := by decide +kernel
theorem dX2_contractPart_5 : decode cX2_contractPart 5 = .ok (.bipush 8, 2) := by decide +kernel
theorem dX2_contractPart_7 : decode cX2_contractPart 7 = .ok (.if_icmp .ge 16, 3) := by decide +kernel
theorem dX2_contractPart_10 : decode cX2_contractPart 10 = .ok (.iload_n 2, 1) := by decide +kernel
theorem dX2_contractPart_11 : decode cX2_contractPart 11 = .ok (.ifCond .lt 12, 3) := by decide +kernel
theorem dX2_contractPart_14 : decode cX2_contractPart 14 = .ok (.iload_n 2, 1) := by decide +kernel
theorem dX2_contractPart_15 : decode cX2_contractPart 15 = .ok (.iconst 4, 1) := by decide +kernel
theorem dX2_contractPart_16 : decode cX2_contractPart 16 = .ok (.if_icmp .ge 7, 3) := by decide +kernel
theorem dX2_contractPart_19 : decode cX2_contractPart 19 = .ok (.iconst 1, 1) := by decide +kernel
theorem dX2_contractPart_20 : decode cX2_contractPart 20 = .ok (.goto 4, 3) := by decide +kernel
theorem dX2_contractPart_23 : decode cX2_contractPart 23 = .ok (.iconst 0, 1) := by decide +kernel
theorem dX2_contractPart_24 : decode cX2_contractPart 24 = .ok (.istore_n 3, 1) := by decide +kernel
theorem dX2_contractPart_25 : decode cX2_contractPart 25 = .ok (.iload_n 3, 1) := by decide +kernel
theorem dX2_contractPart_26 : decode cX2_contractPart 26 = .ok (.ifCond .eq 19, 3) := by decide +kernel
theorem dX2_contractPart_29 : decode cX2_contractPart 29 = .ok (.aload_n 0, 1) := by decide +kernel
theorem dX2_contractPart_30 : decode cX2_contractPart 30 = .ok (.getfield 11, 3) := by decide +kernel
theorem dX2_contractPart_33 : decode cX2_contractPart 33 = .ok (.bipush 82, 2) := by decide +kernel
theorem dX2_contractPart_35 : decode cX2_contractPart 35 = .ok (.iload_n 1, 1) := by decide +kernel
theorem dX2_contractPart_36 : decode cX2_contractPart 36 = .ok (.iconst 4, 1) := by decide +kernel
theorem dX2_contractPart_37 : decode cX2_contractPart 37 = .ok (.imul, 1) := by decide +kernel
theorem dX2_contractPart_38 : decode cX2_contractPart 38 = .ok (.iadd, 1) := by decide +kernel
theorem dX2_contractPart_39 : decode cX2_contractPart 39 = .ok (.iload_n 2, 1) := by decide +kernel
theorem dX2_contractPart_40 : decode cX2_contractPart 40 = .ok (.iadd, 1) := by decide +kernel
theorem dX2_contractPart_41 : decode cX2_contractPart 41 = .ok (.iaload, 1) := by decide +kernel
theorem dX2_contractPart_42 : decode cX2_contractPart 42 = .ok (.goto 4, 3) := by decide +kernel
theorem dX2_contractPart_45 : decode cX2_contractPart 45 = .ok (.iconst 0, 1) := by decide +kernel
theorem dX2_contractPart_46 : decode cX2_contractPart 46 = .ok (.ireturn, 1) := by decide +kernel
set_option maxRecDepth 20000 in
theorem ggX2_allInflows_X2_inflowOf : GoodIn wsX2_allInflows wsX2_inflowOf := goodIn_r _ [5, 6, 7, 8] (by decide +kernel) (by decide +kernel)
set_option maxRecDepth 20000 in
theorem gX2_allInflows_X2_inflowOf : GoodIn wsX2_allInflows (wsV RX2 30 RX2 yX2_inflowOf wsX2_inflowOf) := goodIn_app (goodIn_of _ (by decide +kernel)) ggX2_allInflows_X2_inflowOf
theorem dX2_allInflows_0 : decode cX2_allInflows 0 = .ok (.iconst 0, 1) := by decide +kernel
theorem dX2_allInflows_1 : decode cX2_allInflows 1 = .ok (.istore_n 1, 1) := by decide +kernel
theorem dX2_allInflows_2 : decode cX2_allInflows 2 = .ok (.iconst 0, 1) := by decide +kernel
theorem dX2_allInflows_3 : decode cX2_allInflows 3 = .ok (.istore_n 2, 1) := by decide +kernel
theorem dX2_allInflows_4 : decode cX2_allInflows 4 = .ok (.iload_n 2, 1) := by decide +kernel
theorem dX2_allInflows_5 : decode cX2_allInflows 5 = .ok (.bipush 24, 2) := by decide +kernel
theorem dX2_allInflows_7 : decode cX2_allInflows 7 = .ok (.if_icmp .ge 17, 3) := by decide +kernel
theorem dX2_allInflows_10 : decode cX2_allInflows 10 = .ok (.iload_n 1, 1) := by decide +kernel
theorem dX2_allInflows_11 : decode cX2_allInflows 11 = .ok (.aload_n 0, 1) := by decide +kernel
theorem dX2_allInflows_12 : decode cX2_allInflows 12 = .ok (.iload_n 2, 1) := by decide +kernel
theorem dX2_allInflows_13 : decode cX2_allInflows 13 = .ok (.invokevirtual 30, 3) := by decide +kernel
theorem dX2_allInflows_16 : decode cX2_allInflows 16 = .ok (.iadd, 1) := by decide +kernel
theorem dX2_allInflows_17 : decode cX2_allInflows 17 = .ok (.istore_n 1, 1) := by decide +kernel
theorem dX2_allInflows_18 : decode cX2_allInflows 18 = .ok (.iinc 2 1, 3) := by decide +kernel
theorem dX2_allInflows_21 : decode cX2_allInflows 21 = .ok (.goto (-17), 3) := by decide +kernel
theorem dX2_allInflows_24 : decode cX2_allInflows 24 = .ok (.iload_n 1, 1) := by decide +kernel
theorem dX2_allInflows_25 : decode cX2_allInflows 25 = .ok (.ireturn, 1) := by decide +kernel
set_option maxRecDepth 20000 in
theorem ggX2_changeSetting_X2_fitsTheRest : GoodIn wsX2_changeSetting wsX2_fitsTheRest := goodIn_r _ [7, 8, 9, 10, 11, 6, 12, 13, 14, 15, 16, 21, 22] (by decide +kernel) (by decide +kernel)
set_option maxRecDepth 20000 in
theorem gX2_changeSetting_X2_fitsTheRest : GoodIn wsX2_changeSetting (wsV RX2 37 RX2 yX2_fitsTheRest wsX2_fitsTheRest) := goodIn_app (goodIn_of _ (by decide +kernel)) ggX2_changeSetting_X2_fitsTheRest
set_option maxRecDepth 20000 in
theorem ggX2_changeSetting_X2_replaced : GoodIn wsX2_changeSetting wsX2_replaced := goodIn_r _ [20, 8, 21, 22] (by decide +kernel) (by decide +kernel)
set_option maxRecDepth 20000 in
theorem gX2_changeSetting_X2_replaced : GoodIn wsX2_changeSetting (wsV RX2 41 RX2 yX2_replaced wsX2_replaced) := goodIn_app (goodIn_of _ (by decide +kernel)) ggX2_changeSetting_X2_replaced
theorem dX2_changeSetting_0 : decode cX2_changeSetting 0 = .ok (.iload_n 1, 1) := by decide +kernel
theorem dX2_changeSetting_1 : decode cX2_changeSetting 1 = .ok (.ifCond .lt 22, 3) := by decide +kernel
theorem dX2_changeSetting_4 : decode cX2_changeSetting 4 = .ok (.iload_n 1, 1) := by decide +kernel
theorem dX2_changeSetting_5 : decode cX2_changeSetting 5 = .ok (.bipush 10, 2) := by decide +kernel
theorem dX2_changeSetting_7 : decode cX2_changeSetting 7 = .ok (.if_icmp .ge 16, 3) := by decide +kernel
theorem dX2_changeSetting_10 : decode cX2_changeSetting 10 = .ok (.iload_n 2, 1) := by decide +kernel
theorem dX2_changeSetting_11 : decode cX2_changeSetting 11 = .ok (.ifCond .lt 12, 3) := by decide +kernel
theorem dX2_changeSetting_14 : decode cX2_changeSetting 14 = .ok (.iload_n 2, 1) := by decide +kernel
theorem dX2_changeSetting_15 : decode cX2_changeSetting 15 = .ok (.getstatic 34, 3) := by decide +kernel
theorem dX2_changeSetting_18 : decode cX2_changeSetting 18 = .ok (.iload_n 1, 1) := by decide +kernel
theorem dX2_changeSetting_19 : decode cX2_changeSetting 19 = .ok (.iaload, 1) := by decide +kernel
theorem dX2_changeSetting_20 : decode cX2_changeSetting 20 = .ok (.if_icmp .le 6, 3) := by decide +kernel
theorem dX2_changeSetting_23 : decode cX2_changeSetting 23 = .ok (.bipush (-2), 2) := by decide +kernel
theorem dX2_changeSetting_25 : decode cX2_changeSetting 25 = .ok (.ireturn, 1) := by decide +kernel
theorem dX2_changeSetting_26 : decode cX2_changeSetting 26 = .ok (.aload_n 0, 1) := by decide +kernel
theorem dX2_changeSetting_27 : decode cX2_changeSetting 27 = .ok (.iload_n 1, 1) := by decide +kernel
theorem dX2_changeSetting_28 : decode cX2_changeSetting 28 = .ok (.iload_n 2, 1) := by decide +kernel
theorem dX2_changeSetting_29 : decode cX2_changeSetting 29 = .ok (.invokevirtual 37, 3) := by decide +kernel
theorem dX2_changeSetting_32 : decode cX2_changeSetting 32 = .ok (.ifCond .ne 6, 3) := by decide +kernel
theorem dX2_changeSetting_35 : decode cX2_changeSetting 35 = .ok (.bipush (-5), 2) := by decide +kernel
theorem dX2_changeSetting_37 : decode cX2_changeSetting 37 = .ok (.ireturn, 1) := by decide +kernel
theorem dX2_changeSetting_38 : decode cX2_changeSetting 38 = .ok (.aload_n 0, 1) := by decide +kernel
theorem dX2_changeSetting_39 : decode cX2_changeSetting 39 = .ok (.dup, 1) := by decide +kernel
theorem dX2_changeSetting_40 : decode cX2_changeSetting 40 = .ok (.getfield 15, 3) := by decide +kernel
theorem dX2_changeSetting_43 : decode cX2_changeSetting 43 = .ok (.iconst 1, 1) := by decide +kernel
theorem dX2_changeSetting_44 : decode cX2_changeSetting 44 = .ok (.iadd, 1) := by decide +kernel
theorem dX2_changeSetting_45 : decode cX2_changeSetting 45 = .ok (.putfield 15, 3) := by decide +kernel
theorem dX2_changeSetting_48 : decode cX2_changeSetting 48 = .ok (.aload_n 0, 1) := by decide +kernel
theorem dX2_changeSetting_49 : decode cX2_changeSetting 49 = .ok (.iload_n 1, 1) := by decide +kernel
theorem dX2_changeSetting_50 : decode cX2_changeSetting 50 = .ok (.iload_n 2, 1) := by decide +kernel
theorem dX2_changeSetting_51 : decode cX2_changeSetting 51 = .ok (.invokevirtual 41, 3) := by decide +kernel
theorem dX2_changeSetting_54 : decode cX2_changeSetting 54 = .ok (.ireturn, 1) := by decide +kernel
set_option maxRecDepth 20000 in
theorem ggX2_fitsTheRest_X2_plansAreFrom : GoodIn wsX2_fitsTheRest wsX2_plansAreFrom := goodIn_r _ [6, 7, 8, 9, 5, 10, 1, 11, 12] (by decide +kernel) (by decide +kernel)
set_option maxRecDepth 20000 in
theorem gX2_fitsTheRest_X2_plansAreFrom : GoodIn wsX2_fitsTheRest (wsV RX2 45 RX2 yX2_plansAreFrom wsX2_plansAreFrom) := goodIn_app (goodIn_of _ (by decide +kernel)) ggX2_fitsTheRest_X2_plansAreFrom
theorem dX2_fitsTheRest_0 : decode cX2_fitsTheRest 0 = .ok (.iload_n 1, 1) := by decide +kernel
theorem dX2_fitsTheRest_1 : decode cX2_fitsTheRest 1 = .ok (.tableswitch 102 0 6 #[76, 89, 102, 102, 102, 43, 60], 43) := by decide +kernel
theorem dX2_fitsTheRest_44 : decode cX2_fitsTheRest 44 = .ok (.iload_n 2, 1) := by decide +kernel
theorem dX2_fitsTheRest_45 : decode cX2_fitsTheRest 45 = .ok (.aload_n 0, 1) := by decide +kernel
theorem dX2_fitsTheRest_46 : decode cX2_fitsTheRest 46 = .ok (.getfield 11, 3) := by decide +kernel
theorem dX2_fitsTheRest_49 : decode cX2_fitsTheRest 49 = .ok (.bipush 6, 2) := by decide +kernel
theorem dX2_fitsTheRest_51 : decode cX2_fitsTheRest 51 = .ok (.iaload, 1) := by decide +kernel
theorem dX2_fitsTheRest_52 : decode cX2_fitsTheRest 52 = .ok (.if_icmp .gt 7, 3) := by decide +kernel
theorem dX2_fitsTheRest_55 : decode cX2_fitsTheRest 55 = .ok (.iconst 1, 1) := by decide +kernel
theorem dX2_fitsTheRest_56 : decode cX2_fitsTheRest 56 = .ok (.goto 4, 3) := by decide +kernel
theorem dX2_fitsTheRest_59 : decode cX2_fitsTheRest 59 = .ok (.iconst 0, 1) := by decide +kernel
theorem dX2_fitsTheRest_60 : decode cX2_fitsTheRest 60 = .ok (.ireturn, 1) := by decide +kernel
theorem dX2_fitsTheRest_61 : decode cX2_fitsTheRest 61 = .ok (.iload_n 2, 1) := by decide +kernel
theorem dX2_fitsTheRest_62 : decode cX2_fitsTheRest 62 = .ok (.aload_n 0, 1) := by decide +kernel
theorem dX2_fitsTheRest_63 : decode cX2_fitsTheRest 63 = .ok (.getfield 11, 3) := by decide +kernel
theorem dX2_fitsTheRest_66 : decode cX2_fitsTheRest 66 = .ok (.iconst 5, 1) := by decide +kernel
theorem dX2_fitsTheRest_67 : decode cX2_fitsTheRest 67 = .ok (.iaload, 1) := by decide +kernel
theorem dX2_fitsTheRest_68 : decode cX2_fitsTheRest 68 = .ok (.if_icmp .lt 7, 3) := by decide +kernel
theorem dX2_fitsTheRest_71 : decode cX2_fitsTheRest 71 = .ok (.iconst 1, 1) := by decide +kernel
theorem dX2_fitsTheRest_72 : decode cX2_fitsTheRest 72 = .ok (.goto 4, 3) := by decide +kernel
theorem dX2_fitsTheRest_75 : decode cX2_fitsTheRest 75 = .ok (.iconst 0, 1) := by decide +kernel
theorem dX2_fitsTheRest_76 : decode cX2_fitsTheRest 76 = .ok (.ireturn, 1) := by decide +kernel
theorem dX2_fitsTheRest_77 : decode cX2_fitsTheRest 77 = .ok (.aload_n 0, 1) := by decide +kernel
theorem dX2_fitsTheRest_78 : decode cX2_fitsTheRest 78 = .ok (.iload_n 2, 1) := by decide +kernel
theorem dX2_fitsTheRest_79 : decode cX2_fitsTheRest 79 = .ok (.ineg, 1) := by decide +kernel
theorem dX2_fitsTheRest_80 : decode cX2_fitsTheRest 80 = .ok (.aload_n 0, 1) := by decide +kernel
theorem dX2_fitsTheRest_81 : decode cX2_fitsTheRest 81 = .ok (.getfield 11, 3) := by decide +kernel
theorem dX2_fitsTheRest_84 : decode cX2_fitsTheRest 84 = .ok (.iconst 1, 1) := by decide +kernel
theorem dX2_fitsTheRest_85 : decode cX2_fitsTheRest 85 = .ok (.iaload, 1) := by decide +kernel
theorem dX2_fitsTheRest_86 : decode cX2_fitsTheRest 86 = .ok (.invokevirtual 45, 3) := by decide +kernel
theorem dX2_fitsTheRest_89 : decode cX2_fitsTheRest 89 = .ok (.ireturn, 1) := by decide +kernel
theorem dX2_fitsTheRest_90 : decode cX2_fitsTheRest 90 = .ok (.aload_n 0, 1) := by decide +kernel
theorem dX2_fitsTheRest_91 : decode cX2_fitsTheRest 91 = .ok (.aload_n 0, 1) := by decide +kernel
theorem dX2_fitsTheRest_92 : decode cX2_fitsTheRest 92 = .ok (.getfield 11, 3) := by decide +kernel
theorem dX2_fitsTheRest_95 : decode cX2_fitsTheRest 95 = .ok (.iconst 0, 1) := by decide +kernel
theorem dX2_fitsTheRest_96 : decode cX2_fitsTheRest 96 = .ok (.iaload, 1) := by decide +kernel
theorem dX2_fitsTheRest_97 : decode cX2_fitsTheRest 97 = .ok (.ineg, 1) := by decide +kernel
theorem dX2_fitsTheRest_98 : decode cX2_fitsTheRest 98 = .ok (.iload_n 2, 1) := by decide +kernel
theorem dX2_fitsTheRest_99 : decode cX2_fitsTheRest 99 = .ok (.invokevirtual 45, 3) := by decide +kernel
theorem dX2_fitsTheRest_102 : decode cX2_fitsTheRest 102 = .ok (.ireturn, 1) := by decide +kernel
theorem dX2_fitsTheRest_103 : decode cX2_fitsTheRest 103 = .ok (.iconst 1, 1) := by decide +kernel
theorem dX2_fitsTheRest_104 : decode cX2_fitsTheRest 104 = .ok (.ireturn, 1) := by decide +kernel
set_option maxRecDepth 20000 in
theorem ggX2_plansAreFrom_X2_planOf : GoodIn wsX2_plansAreFrom wsX2_planOf := goodIn_r _ [5, 6, 7, 8] (by decide +kernel) (by decide +kernel)
set_option maxRecDepth 20000 in
theorem gX2_plansAreFrom_X2_planOf : GoodIn wsX2_plansAreFrom (wsV RX2 48 RX2 yX2_planOf wsX2_planOf) := goodIn_app (goodIn_of _ (by decide +kernel)) ggX2_plansAreFrom_X2_planOf
theorem dX2_plansAreFrom_0 : decode cX2_plansAreFrom 0 = .ok (.iconst 0, 1) := by decide +kernel
theorem dX2_plansAreFrom_1 : decode cX2_plansAreFrom 1 = .ok (.istore_n 3, 1) := by decide +kernel
theorem dX2_plansAreFrom_2 : decode cX2_plansAreFrom 2 = .ok (.iload_n 3, 1) := by decide +kernel
theorem dX2_plansAreFrom_3 : decode cX2_plansAreFrom 3 = .ok (.bipush 24, 2) := by decide +kernel
theorem dX2_plansAreFrom_5 : decode cX2_plansAreFrom 5 = .ok (.if_icmp .ge 29, 3) := by decide +kernel
theorem dX2_plansAreFrom_8 : decode cX2_plansAreFrom 8 = .ok (.aload_n 0, 1) := by decide +kernel
theorem dX2_plansAreFrom_9 : decode cX2_plansAreFrom 9 = .ok (.iload_n 3, 1) := by decide +kernel
theorem dX2_plansAreFrom_10 : decode cX2_plansAreFrom 10 = .ok (.invokevirtual 48, 3) := by decide +kernel
theorem dX2_plansAreFrom_13 : decode cX2_plansAreFrom 13 = .ok (.iload_n 1, 1) := by decide +kernel
theorem dX2_plansAreFrom_14 : decode cX2_plansAreFrom 14 = .ok (.if_icmp .lt 12, 3) := by decide +kernel
theorem dX2_plansAreFrom_17 : decode cX2_plansAreFrom 17 = .ok (.aload_n 0, 1) := by decide +kernel
theorem dX2_plansAreFrom_18 : decode cX2_plansAreFrom 18 = .ok (.iload_n 3, 1) := by decide +kernel
theorem dX2_plansAreFrom_19 : decode cX2_plansAreFrom 19 = .ok (.invokevirtual 48, 3) := by decide +kernel
theorem dX2_plansAreFrom_22 : decode cX2_plansAreFrom 22 = .ok (.iload_n 2, 1) := by decide +kernel
theorem dX2_plansAreFrom_23 : decode cX2_plansAreFrom 23 = .ok (.if_icmp .le 5, 3) := by decide +kernel
theorem dX2_plansAreFrom_26 : decode cX2_plansAreFrom 26 = .ok (.iconst 0, 1) := by decide +kernel
theorem dX2_plansAreFrom_27 : decode cX2_plansAreFrom 27 = .ok (.ireturn, 1) := by decide +kernel
theorem dX2_plansAreFrom_28 : decode cX2_plansAreFrom 28 = .ok (.iinc 3 1, 3) := by decide +kernel
theorem dX2_plansAreFrom_31 : decode cX2_plansAreFrom 31 = .ok (.goto (-29), 3) := by decide +kernel
theorem dX2_plansAreFrom_34 : decode cX2_plansAreFrom 34 = .ok (.iconst 1, 1) := by decide +kernel
theorem dX2_plansAreFrom_35 : decode cX2_plansAreFrom 35 = .ok (.ireturn, 1) := by decide +kernel
set_option maxRecDepth 20000 in
theorem ggX2_changePrice_X6_isHour : GoodIn wsX2_changePrice wsX6_isHour := goodIn_r _ [4] (by decide +kernel) (by decide +kernel)
set_option maxRecDepth 20000 in
theorem gX2_changePrice_X6_isHour_n51 : GoodIn wsX2_changePrice (wsX6_isHour) := ggX2_changePrice_X6_isHour
set_option maxRecDepth 20000 in
theorem ggX2_changePrice_X2_replaced : GoodIn wsX2_changePrice wsX2_replaced := goodIn_r _ [9, 10, 11, 12] (by decide +kernel) (by decide +kernel)
set_option maxRecDepth 20000 in
theorem gX2_changePrice_X2_replaced : GoodIn wsX2_changePrice (wsV RX2 41 RX2 yX2_replaced wsX2_replaced) := goodIn_app (goodIn_of _ (by decide +kernel)) ggX2_changePrice_X2_replaced
theorem dX2_changePrice_0 : decode cX2_changePrice 0 = .ok (.iload_n 1, 1) := by decide +kernel
theorem dX2_changePrice_1 : decode cX2_changePrice 1 = .ok (.invokestatic 51, 3) := by decide +kernel
theorem dX2_changePrice_4 : decode cX2_changePrice 4 = .ok (.ifCond .ne 5, 3) := by decide +kernel
theorem dX2_changePrice_7 : decode cX2_changePrice 7 = .ok (.iconst (-1), 1) := by decide +kernel
theorem dX2_changePrice_8 : decode cX2_changePrice 8 = .ok (.ireturn, 1) := by decide +kernel
theorem dX2_changePrice_9 : decode cX2_changePrice 9 = .ok (.iload_n 2, 1) := by decide +kernel
theorem dX2_changePrice_10 : decode cX2_changePrice 10 = .ok (.ifCond .lt 10, 3) := by decide +kernel
theorem dX2_changePrice_13 : decode cX2_changePrice 13 = .ok (.iload_n 2, 1) := by decide +kernel
theorem dX2_changePrice_14 : decode cX2_changePrice 14 = .ok (.sipush 999, 3) := by decide +kernel
theorem dX2_changePrice_17 : decode cX2_changePrice 17 = .ok (.if_icmp .le 6, 3) := by decide +kernel
theorem dX2_changePrice_20 : decode cX2_changePrice 20 = .ok (.bipush (-2), 2) := by decide +kernel
theorem dX2_changePrice_22 : decode cX2_changePrice 22 = .ok (.ireturn, 1) := by decide +kernel
theorem dX2_changePrice_23 : decode cX2_changePrice 23 = .ok (.aload_n 0, 1) := by decide +kernel
theorem dX2_changePrice_24 : decode cX2_changePrice 24 = .ok (.dup, 1) := by decide +kernel
theorem dX2_changePrice_25 : decode cX2_changePrice 25 = .ok (.getfield 15, 3) := by decide +kernel
theorem dX2_changePrice_28 : decode cX2_changePrice 28 = .ok (.iconst 1, 1) := by decide +kernel
theorem dX2_changePrice_29 : decode cX2_changePrice 29 = .ok (.iadd, 1) := by decide +kernel
theorem dX2_changePrice_30 : decode cX2_changePrice 30 = .ok (.putfield 15, 3) := by decide +kernel
theorem dX2_changePrice_33 : decode cX2_changePrice 33 = .ok (.aload_n 0, 1) := by decide +kernel
theorem dX2_changePrice_34 : decode cX2_changePrice 34 = .ok (.bipush 10, 2) := by decide +kernel
theorem dX2_changePrice_36 : decode cX2_changePrice 36 = .ok (.iload_n 1, 1) := by decide +kernel
theorem dX2_changePrice_37 : decode cX2_changePrice 37 = .ok (.iadd, 1) := by decide +kernel
theorem dX2_changePrice_38 : decode cX2_changePrice 38 = .ok (.iload_n 2, 1) := by decide +kernel
theorem dX2_changePrice_39 : decode cX2_changePrice 39 = .ok (.invokevirtual 41, 3) := by decide +kernel
theorem dX2_changePrice_42 : decode cX2_changePrice 42 = .ok (.ireturn, 1) := by decide +kernel
set_option maxRecDepth 20000 in
theorem ggX2_changeInflow_X6_isHour : GoodIn wsX2_changeInflow wsX6_isHour := goodIn_r _ [4] (by decide +kernel) (by decide +kernel)
set_option maxRecDepth 20000 in
theorem gX2_changeInflow_X6_isHour_n51 : GoodIn wsX2_changeInflow (wsX6_isHour) := ggX2_changeInflow_X6_isHour
set_option maxRecDepth 20000 in
theorem ggX2_changeInflow_X2_replaced : GoodIn wsX2_changeInflow wsX2_replaced := goodIn_r _ [9, 10, 11, 12] (by decide +kernel) (by decide +kernel)
set_option maxRecDepth 20000 in
theorem gX2_changeInflow_X2_replaced : GoodIn wsX2_changeInflow (wsV RX2 41 RX2 yX2_replaced wsX2_replaced) := goodIn_app (goodIn_of _ (by decide +kernel)) ggX2_changeInflow_X2_replaced
theorem dX2_changeInflow_0 : decode cX2_changeInflow 0 = .ok (.iload_n 1, 1) := by decide +kernel
theorem dX2_changeInflow_1 : decode cX2_changeInflow 1 = .ok (.invokestatic 51, 3) := by decide +kernel
theorem dX2_changeInflow_4 : decode cX2_changeInflow 4 = .ok (.ifCond .ne 5, 3) := by decide +kernel
theorem dX2_changeInflow_7 : decode cX2_changeInflow 7 = .ok (.iconst (-1), 1) := by decide +kernel
theorem dX2_changeInflow_8 : decode cX2_changeInflow 8 = .ok (.ireturn, 1) := by decide +kernel
theorem dX2_changeInflow_9 : decode cX2_changeInflow 9 = .ok (.iload_n 2, 1) := by decide +kernel
theorem dX2_changeInflow_10 : decode cX2_changeInflow 10 = .ok (.ifCond .lt 9, 3) := by decide +kernel
theorem dX2_changeInflow_13 : decode cX2_changeInflow 13 = .ok (.iload_n 2, 1) := by decide +kernel
theorem dX2_changeInflow_14 : decode cX2_changeInflow 14 = .ok (.bipush 99, 2) := by decide +kernel
theorem dX2_changeInflow_16 : decode cX2_changeInflow 16 = .ok (.if_icmp .le 6, 3) := by decide +kernel
theorem dX2_changeInflow_19 : decode cX2_changeInflow 19 = .ok (.bipush (-2), 2) := by decide +kernel
theorem dX2_changeInflow_21 : decode cX2_changeInflow 21 = .ok (.ireturn, 1) := by decide +kernel
theorem dX2_changeInflow_22 : decode cX2_changeInflow 22 = .ok (.aload_n 0, 1) := by decide +kernel
theorem dX2_changeInflow_23 : decode cX2_changeInflow 23 = .ok (.dup, 1) := by decide +kernel
theorem dX2_changeInflow_24 : decode cX2_changeInflow 24 = .ok (.getfield 15, 3) := by decide +kernel
theorem dX2_changeInflow_27 : decode cX2_changeInflow 27 = .ok (.iconst 1, 1) := by decide +kernel
theorem dX2_changeInflow_28 : decode cX2_changeInflow 28 = .ok (.iadd, 1) := by decide +kernel
theorem dX2_changeInflow_29 : decode cX2_changeInflow 29 = .ok (.putfield 15, 3) := by decide +kernel
theorem dX2_changeInflow_32 : decode cX2_changeInflow 32 = .ok (.aload_n 0, 1) := by decide +kernel
theorem dX2_changeInflow_33 : decode cX2_changeInflow 33 = .ok (.bipush 34, 2) := by decide +kernel
theorem dX2_changeInflow_35 : decode cX2_changeInflow 35 = .ok (.iload_n 1, 1) := by decide +kernel
