theorem dX7_mayContract_27 : decode cX7_mayContract 27 = .ok (.ifCond .eq 15, 3) := by decide +kernel
theorem dX7_mayContract_30 : decode cX7_mayContract 30 = .ok (.iload 4, 2) := by decide +kernel
theorem dX7_mayContract_32 : decode cX7_mayContract 32 = .ok (.iconst 0, 1) := by decide +kernel
theorem dX7_mayContract_33 : decode cX7_mayContract 33 = .ok (.sipush 9999, 3) := by decide +kernel
theorem dX7_mayContract_36 : decode cX7_mayContract 36 = .ok (.invokestatic 35, 3) := by decide +kernel
theorem dX7_mayContract_39 : decode cX7_mayContract 39 = .ok (.ifCond .ne 6, 3) := by decide +kernel
theorem dX7_mayContract_42 : decode cX7_mayContract 42 = .ok (.bipush (-2), 2) := by decide +kernel
theorem dX7_mayContract_44 : decode cX7_mayContract 44 = .ok (.ireturn, 1) := by decide +kernel
theorem dX7_mayContract_45 : decode cX7_mayContract 45 = .ok (.aload_n 0, 1) := by decide +kernel
theorem dX7_mayContract_46 : decode cX7_mayContract 46 = .ok (.getfield 7, 3) := by decide +kernel
theorem dX7_mayContract_49 : decode cX7_mayContract 49 = .ok (.bipush 82, 2) := by decide +kernel
theorem dX7_mayContract_51 : decode cX7_mayContract 51 = .ok (.iaload, 1) := by decide +kernel
theorem dX7_mayContract_52 : decode cX7_mayContract 52 = .ok (.bipush 8, 2) := by decide +kernel
theorem dX7_mayContract_54 : decode cX7_mayContract 54 = .ok (.if_icmp .ne 8, 3) := by decide +kernel
theorem dX7_mayContract_57 : decode cX7_mayContract 57 = .ok (.bipush (-4), 2) := by decide +kernel
theorem dX7_mayContract_59 : decode cX7_mayContract 59 = .ok (.goto 4, 3) := by decide +kernel
theorem dX7_mayContract_62 : decode cX7_mayContract 62 = .ok (.iconst 0, 1) := by decide +kernel
theorem dX7_mayContract_63 : decode cX7_mayContract 63 = .ok (.ireturn, 1) := by decide +kernel
theorem dX7_comes_0 : decode cX7_comes 0 = .ok (.bipush 83, 2) := by decide +kernel
theorem dX7_comes_2 : decode cX7_comes 2 = .ok (.iconst 4, 1) := by decide +kernel
theorem dX7_comes_3 : decode cX7_comes 3 = .ok (.aload_n 0, 1) := by decide +kernel
theorem dX7_comes_4 : decode cX7_comes 4 = .ok (.getfield 7, 3) := by decide +kernel
theorem dX7_comes_7 : decode cX7_comes 7 = .ok (.bipush 82, 2) := by decide +kernel
theorem dX7_comes_9 : decode cX7_comes 9 = .ok (.iaload, 1) := by decide +kernel
theorem dX7_comes_10 : decode cX7_comes 10 = .ok (.imul, 1) := by decide +kernel
theorem dX7_comes_11 : decode cX7_comes 11 = .ok (.iadd, 1) := by decide +kernel
theorem dX7_comes_12 : decode cX7_comes 12 = .ok (.istore 5, 2) := by decide +kernel
theorem dX7_comes_14 : decode cX7_comes 14 = .ok (.aload_n 0, 1) := by decide +kernel
theorem dX7_comes_15 : decode cX7_comes 15 = .ok (.getfield 7, 3) := by decide +kernel
theorem dX7_comes_18 : decode cX7_comes 18 = .ok (.iload 5, 2) := by decide +kernel
theorem dX7_comes_20 : decode cX7_comes 20 = .ok (.iload_n 1, 1) := by decide +kernel
theorem dX7_comes_21 : decode cX7_comes 21 = .ok (.iastore, 1) := by decide +kernel
theorem dX7_comes_22 : decode cX7_comes 22 = .ok (.aload_n 0, 1) := by decide +kernel
theorem dX7_comes_23 : decode cX7_comes 23 = .ok (.getfield 7, 3) := by decide +kernel
theorem dX7_comes_26 : decode cX7_comes 26 = .ok (.iload 5, 2) := by decide +kernel
theorem dX7_comes_28 : decode cX7_comes 28 = .ok (.iconst 1, 1) := by decide +kernel
theorem dX7_comes_29 : decode cX7_comes 29 = .ok (.iadd, 1) := by decide +kernel
theorem dX7_comes_30 : decode cX7_comes 30 = .ok (.iload_n 2, 1) := by decide +kernel
theorem dX7_comes_31 : decode cX7_comes 31 = .ok (.iastore, 1) := by decide +kernel
theorem dX7_comes_32 : decode cX7_comes 32 = .ok (.aload_n 0, 1) := by decide +kernel
theorem dX7_comes_33 : decode cX7_comes 33 = .ok (.getfield 7, 3) := by decide +kernel
theorem dX7_comes_36 : decode cX7_comes 36 = .ok (.iload 5, 2) := by decide +kernel
theorem dX7_comes_38 : decode cX7_comes 38 = .ok (.iconst 2, 1) := by decide +kernel
theorem dX7_comes_39 : decode cX7_comes 39 = .ok (.iadd, 1) := by decide +kernel
theorem dX7_comes_40 : decode cX7_comes 40 = .ok (.iload_n 3, 1) := by decide +kernel
theorem dX7_comes_41 : decode cX7_comes 41 = .ok (.iastore, 1) := by decide +kernel
theorem dX7_comes_42 : decode cX7_comes 42 = .ok (.aload_n 0, 1) := by decide +kernel
theorem dX7_comes_43 : decode cX7_comes 43 = .ok (.getfield 7, 3) := by decide +kernel
theorem dX7_comes_46 : decode cX7_comes 46 = .ok (.iload 5, 2) := by decide +kernel
theorem dX7_comes_48 : decode cX7_comes 48 = .ok (.iconst 3, 1) := by decide +kernel
theorem dX7_comes_49 : decode cX7_comes 49 = .ok (.iadd, 1) := by decide +kernel
theorem dX7_comes_50 : decode cX7_comes 50 = .ok (.iload 4, 2) := by decide +kernel
theorem dX7_comes_52 : decode cX7_comes 52 = .ok (.iastore, 1) := by decide +kernel
theorem dX7_comes_53 : decode cX7_comes 53 = .ok (.aload_n 0, 1) := by decide +kernel
theorem dX7_comes_54 : decode cX7_comes 54 = .ok (.getfield 7, 3) := by decide +kernel
theorem dX7_comes_57 : decode cX7_comes 57 = .ok (.bipush 82, 2) := by decide +kernel
theorem dX7_comes_59 : decode cX7_comes 59 = .ok (.dup2, 1) := by decide +kernel
theorem dX7_comes_60 : decode cX7_comes 60 = .ok (.iaload, 1) := by decide +kernel
theorem dX7_comes_61 : decode cX7_comes 61 = .ok (.iconst 1, 1) := by decide +kernel
theorem dX7_comes_62 : decode cX7_comes 62 = .ok (.iadd, 1) := by decide +kernel
theorem dX7_comes_63 : decode cX7_comes 63 = .ok (.iastore, 1) := by decide +kernel
theorem dX7_comes_64 : decode cX7_comes 64 = .ok (.aload_n 0, 1) := by decide +kernel
theorem dX7_comes_65 : decode cX7_comes 65 = .ok (.getfield 7, 3) := by decide +kernel
theorem dX7_comes_68 : decode cX7_comes 68 = .ok (.bipush 82, 2) := by decide +kernel
theorem dX7_comes_70 : decode cX7_comes 70 = .ok (.iaload, 1) := by decide +kernel
theorem dX7_comes_71 : decode cX7_comes 71 = .ok (.iconst 1, 1) := by decide +kernel
theorem dX7_comes_72 : decode cX7_comes 72 = .ok (.isub, 1) := by decide +kernel
theorem dX7_comes_73 : decode cX7_comes 73 = .ok (.ireturn, 1) := by decide +kernel
set_option maxRecDepth 20000 in
theorem ggX7_contract_X7_mayContract : GoodIn wsX7_contract wsX7_mayContract := goodIn_r _ [5, 6, 7, 8, 4, 9, 10, 11, 12, 26, 27, 28, 29, 30, 31, 32, 33, 34, 35, 36, 37, 38, 39, 40, 41, 42, 43] (by decide +kernel) (by decide +kernel)
set_option maxRecDepth 20000 in
theorem gX7_contract_X7_mayContract : GoodIn wsX7_contract (wsV RX7 120 RX7 yX7_mayContract wsX7_mayContract) := goodIn_app (goodIn_of _ (by decide +kernel)) ggX7_contract_X7_mayContract
set_option maxRecDepth 20000 in
theorem ggX7_contract_X7_records : GoodIn wsX7_contract wsX7_records := goodIn_r _ [16, 17, 18, 6, 19, 20, 4, 21, 26, 27, 28, 29, 30, 31, 32, 33, 34, 35, 36, 37, 38, 39, 40, 41, 42, 43] (by decide +kernel) (by decide +kernel)
set_option maxRecDepth 20000 in
theorem gX7_contract_X7_records : GoodIn wsX7_contract (wsV RX7 51 RX7 yX7_records wsX7_records) := goodIn_app (goodIn_of _ (by decide +kernel)) ggX7_contract_X7_records
set_option maxRecDepth 20000 in
theorem ggX7_contract_X7_comes : GoodIn wsX7_contract wsX7_comes := goodIn_r _ [25, 6, 26, 27, 28, 29, 30, 31, 32, 33, 34, 35, 36, 37, 38, 39, 40, 41, 42, 43] (by decide +kernel) (by decide +kernel)
set_option maxRecDepth 20000 in
theorem gX7_contract_X7_comes : GoodIn wsX7_contract (wsV RX7 124 RX7 yX7_comes wsX7_comes) := goodIn_app (goodIn_of _ (by decide +kernel)) ggX7_contract_X7_comes
theorem dX7_contract_0 : decode cX7_contract 0 = .ok (.aload_n 0, 1) := by decide +kernel
theorem dX7_contract_1 : decode cX7_contract 1 = .ok (.iload_n 1, 1) := by decide +kernel
theorem dX7_contract_2 : decode cX7_contract 2 = .ok (.iload_n 2, 1) := by decide +kernel
theorem dX7_contract_3 : decode cX7_contract 3 = .ok (.iload_n 3, 1) := by decide +kernel
theorem dX7_contract_4 : decode cX7_contract 4 = .ok (.iload 4, 2) := by decide +kernel
theorem dX7_contract_6 : decode cX7_contract 6 = .ok (.invokevirtual 120, 3) := by decide +kernel
theorem dX7_contract_9 : decode cX7_contract 9 = .ok (.istore 5, 2) := by decide +kernel
theorem dX7_contract_11 : decode cX7_contract 11 = .ok (.iload 5, 2) := by decide +kernel
theorem dX7_contract_13 : decode cX7_contract 13 = .ok (.ifCond .eq 6, 3) := by decide +kernel
theorem dX7_contract_16 : decode cX7_contract 16 = .ok (.iload 5, 2) := by decide +kernel
theorem dX7_contract_18 : decode cX7_contract 18 = .ok (.ireturn, 1) := by decide +kernel
theorem dX7_contract_19 : decode cX7_contract 19 = .ok (.aload_n 0, 1) := by decide +kernel
theorem dX7_contract_20 : decode cX7_contract 20 = .ok (.invokevirtual 51, 3) := by decide +kernel
theorem dX7_contract_23 : decode cX7_contract 23 = .ok (.aload_n 0, 1) := by decide +kernel
theorem dX7_contract_24 : decode cX7_contract 24 = .ok (.iload_n 1, 1) := by decide +kernel
theorem dX7_contract_25 : decode cX7_contract 25 = .ok (.iload_n 2, 1) := by decide +kernel
theorem dX7_contract_26 : decode cX7_contract 26 = .ok (.iload_n 3, 1) := by decide +kernel
theorem dX7_contract_27 : decode cX7_contract 27 = .ok (.iload 4, 2) := by decide +kernel
theorem dX7_contract_29 : decode cX7_contract 29 = .ok (.invokevirtual 124, 3) := by decide +kernel
theorem dX7_contract_32 : decode cX7_contract 32 = .ok (.ireturn, 1) := by decide +kernel
set_option maxRecDepth 20000 in
theorem ggX7_drop_X7_in : GoodIn wsX7_drop wsX7_in := goodIn_r _ [5] (by decide +kernel) (by decide +kernel)
set_option maxRecDepth 20000 in
theorem gX7_drop_X7_in : GoodIn wsX7_drop (va_wsS RX7 35 yX7_in wsX7_in) := goodIn_app (goodIn_of _ (by decide +kernel)) ggX7_drop_X7_in
set_option maxRecDepth 20000 in
theorem ggX7_drop_X7_records : GoodIn wsX7_drop wsX7_records := goodIn_r _ [9, 10, 11, 1, 12, 13, 4, 14, 15, 16, 17, 18, 19, 20, 21, 22, 23, 24, 25, 26, 27, 28, 29, 30, 31, 32] (by decide +kernel) (by decide +kernel)
set_option maxRecDepth 20000 in
theorem gX7_drop_X7_records : GoodIn wsX7_drop (wsV RX7 51 RX7 yX7_records wsX7_records) := goodIn_app (goodIn_of _ (by decide +kernel)) ggX7_drop_X7_records
theorem dX7_drop_0 : decode cX7_drop 0 = .ok (.iload_n 1, 1) := by decide +kernel
theorem dX7_drop_1 : decode cX7_drop 1 = .ok (.iconst 0, 1) := by decide +kernel
theorem dX7_drop_2 : decode cX7_drop 2 = .ok (.aload_n 0, 1) := by decide +kernel
theorem dX7_drop_3 : decode cX7_drop 3 = .ok (.getfield 7, 3) := by decide +kernel
theorem dX7_drop_6 : decode cX7_drop 6 = .ok (.bipush 82, 2) := by decide +kernel
theorem dX7_drop_8 : decode cX7_drop 8 = .ok (.iaload, 1) := by decide +kernel
theorem dX7_drop_9 : decode cX7_drop 9 = .ok (.iconst 1, 1) := by decide +kernel
theorem dX7_drop_10 : decode cX7_drop 10 = .ok (.isub, 1) := by decide +kernel
theorem dX7_drop_11 : decode cX7_drop 11 = .ok (.invokestatic 35, 3) := by decide +kernel
theorem dX7_drop_14 : decode cX7_drop 14 = .ok (.ifCond .ne 5, 3) := by decide +kernel
theorem dX7_drop_17 : decode cX7_drop 17 = .ok (.iconst (-1), 1) := by decide +kernel
theorem dX7_drop_18 : decode cX7_drop 18 = .ok (.ireturn, 1) := by decide +kernel
theorem dX7_drop_19 : decode cX7_drop 19 = .ok (.aload_n 0, 1) := by decide +kernel
theorem dX7_drop_20 : decode cX7_drop 20 = .ok (.invokevirtual 51, 3) := by decide +kernel
theorem dX7_drop_23 : decode cX7_drop 23 = .ok (.aload_n 0, 1) := by decide +kernel
theorem dX7_drop_24 : decode cX7_drop 24 = .ok (.getfield 7, 3) := by decide +kernel
theorem dX7_drop_27 : decode cX7_drop 27 = .ok (.bipush 82, 2) := by decide +kernel
theorem dX7_drop_29 : decode cX7_drop 29 = .ok (.dup2, 1) := by decide +kernel
theorem dX7_drop_30 : decode cX7_drop 30 = .ok (.iaload, 1) := by decide +kernel
theorem dX7_drop_31 : decode cX7_drop 31 = .ok (.iconst 1, 1) := by decide +kernel
theorem dX7_drop_32 : decode cX7_drop 32 = .ok (.isub, 1) := by decide +kernel
theorem dX7_drop_33 : decode cX7_drop 33 = .ok (.iastore, 1) := by decide +kernel
theorem dX7_drop_34 : decode cX7_drop 34 = .ok (.bipush 83, 2) := by decide +kernel
theorem dX7_drop_36 : decode cX7_drop 36 = .ok (.iconst 4, 1) := by decide +kernel
theorem dX7_drop_37 : decode cX7_drop 37 = .ok (.iload_n 1, 1) := by decide +kernel
theorem dX7_drop_38 : decode cX7_drop 38 = .ok (.imul, 1) := by decide +kernel
theorem dX7_drop_39 : decode cX7_drop 39 = .ok (.iadd, 1) := by decide +kernel
theorem dX7_drop_40 : decode cX7_drop 40 = .ok (.istore_n 2, 1) := by decide +kernel
theorem dX7_drop_41 : decode cX7_drop 41 = .ok (.iload_n 2, 1) := by decide +kernel
theorem dX7_drop_42 : decode cX7_drop 42 = .ok (.bipush 83, 2) := by decide +kernel
theorem dX7_drop_44 : decode cX7_drop 44 = .ok (.iconst 4, 1) := by decide +kernel
theorem dX7_drop_45 : decode cX7_drop 45 = .ok (.aload_n 0, 1) := by decide +kernel
theorem dX7_drop_46 : decode cX7_drop 46 = .ok (.getfield 7, 3) := by decide +kernel
theorem dX7_drop_49 : decode cX7_drop 49 = .ok (.bipush 82, 2) := by decide +kernel
theorem dX7_drop_51 : decode cX7_drop 51 = .ok (.iaload, 1) := by decide +kernel
theorem dX7_drop_52 : decode cX7_drop 52 = .ok (.imul, 1) := by decide +kernel
theorem dX7_drop_53 : decode cX7_drop 53 = .ok (.iadd, 1) := by decide +kernel
theorem dX7_drop_54 : decode cX7_drop 54 = .ok (.if_icmp .ge 23, 3) := by decide +kernel
theorem dX7_drop_57 : decode cX7_drop 57 = .ok (.aload_n 0, 1) := by decide +kernel
theorem dX7_drop_58 : decode cX7_drop 58 = .ok (.getfield 7, 3) := by decide +kernel
theorem dX7_drop_61 : decode cX7_drop 61 = .ok (.iload_n 2, 1) := by decide +kernel
theorem dX7_drop_62 : decode cX7_drop 62 = .ok (.aload_n 0, 1) := by decide +kernel
theorem dX7_drop_63 : decode cX7_drop 63 = .ok (.getfield 7, 3) := by decide +kernel
theorem dX7_drop_66 : decode cX7_drop 66 = .ok (.iload_n 2, 1) := by decide +kernel
theorem dX7_drop_67 : decode cX7_drop 67 = .ok (.iconst 4, 1) := by decide +kernel
theorem dX7_drop_68 : decode cX7_drop 68 = .ok (.iadd, 1) := by decide +kernel
theorem dX7_drop_69 : decode cX7_drop 69 = .ok (.iaload, 1) := by decide +kernel
theorem dX7_drop_70 : decode cX7_drop 70 = .ok (.iastore, 1) := by decide +kernel
theorem dX7_drop_71 : decode cX7_drop 71 = .ok (.iinc 2 1, 3) := by decide +kernel
theorem dX7_drop_74 : decode cX7_drop 74 = .ok (.goto (-33), 3) := by decide +kernel
theorem dX7_drop_77 : decode cX7_drop 77 = .ok (.aload_n 0, 1) := by decide +kernel
theorem dX7_drop_78 : decode cX7_drop 78 = .ok (.getfield 7, 3) := by decide +kernel
theorem dX7_drop_81 : decode cX7_drop 81 = .ok (.bipush 82, 2) := by decide +kernel
theorem dX7_drop_83 : decode cX7_drop 83 = .ok (.iaload, 1) := by decide +kernel
theorem dX7_drop_84 : decode cX7_drop 84 = .ok (.ireturn, 1) := by decide +kernel
set_option maxRecDepth 20000 in
theorem ggX7_adopts_X7_bestOf : GoodIn wsX7_adopts wsX7_bestOf := goodIn_r _ [7, 1, 8, 9, 10, 11, 6, 12, 2, 13, 14, 15, 16, 17, 18, 19, 20, 21, 22, 23, 24, 25, 26, 27, 28, 29, 30, 31, 32, 33, 34, 35, 36, 37, 38, 39, 40, 41, 42, 43, 44, 45, 46, 47, 48, 49, 50, 51, 52] (by decide +kernel) (by decide +kernel)
set_option maxRecDepth 20000 in
theorem gX7_adopts_X7_bestOf : GoodIn wsX7_adopts (wsV RX7 127 RX7 yX7_bestOf wsX7_bestOf) := goodIn_app (goodIn_of _ (by decide +kernel)) ggX7_adopts_X7_bestOf
theorem dX7_adopts_0 : decode cX7_adopts 0 = .ok (.iconst 0, 1) := by decide +kernel
theorem dX7_adopts_1 : decode cX7_adopts 1 = .ok (.istore_n 1, 1) := by decide +kernel
theorem dX7_adopts_2 : decode cX7_adopts 2 = .ok (.aload_n 0, 1) := by decide +kernel
theorem dX7_adopts_3 : decode cX7_adopts 3 = .ok (.getfield 7, 3) := by decide +kernel
theorem dX7_adopts_6 : decode cX7_adopts 6 = .ok (.bipush 7, 2) := by decide +kernel
theorem dX7_adopts_8 : decode cX7_adopts 8 = .ok (.iaload, 1) := by decide +kernel
theorem dX7_adopts_9 : decode cX7_adopts 9 = .ok (.istore_n 2, 1) := by decide +kernel
theorem dX7_adopts_10 : decode cX7_adopts 10 = .ok (.iconst 0, 1) := by decide +kernel
theorem dX7_adopts_11 : decode cX7_adopts 11 = .ok (.istore_n 3, 1) := by decide +kernel
theorem dX7_adopts_12 : decode cX7_adopts 12 = .ok (.iload_n 3, 1) := by decide +kernel
theorem dX7_adopts_13 : decode cX7_adopts 13 = .ok (.bipush 24, 2) := by decide +kernel
theorem dX7_adopts_15 : decode cX7_adopts 15 = .ok (.if_icmp .ge 55, 3) := by decide +kernel
theorem dX7_adopts_18 : decode cX7_adopts 18 = .ok (.aload_n 0, 1) := by decide +kernel
theorem dX7_adopts_19 : decode cX7_adopts 19 = .ok (.iload_n 3, 1) := by decide +kernel
theorem dX7_adopts_20 : decode cX7_adopts 20 = .ok (.iload_n 2, 1) := by decide +kernel
theorem dX7_adopts_21 : decode cX7_adopts 21 = .ok (.invokevirtual 127, 3) := by decide +kernel
theorem dX7_adopts_24 : decode cX7_adopts 24 = .ok (.istore 4, 2) := by decide +kernel
theorem dX7_adopts_26 : decode cX7_adopts 26 = .ok (.aload_n 0, 1) := by decide +kernel
theorem dX7_adopts_27 : decode cX7_adopts 27 = .ok (.getfield 60, 3) := by decide +kernel
theorem dX7_adopts_30 : decode cX7_adopts 30 = .ok (.istore_n 2, 1) := by decide +kernel
theorem dX7_adopts_31 : decode cX7_adopts 31 = .ok (.iload_n 1, 1) := by decide +kernel
theorem dX7_adopts_32 : decode cX7_adopts 32 = .ok (.aload_n 0, 1) := by decide +kernel
theorem dX7_adopts_33 : decode cX7_adopts 33 = .ok (.getfield 7, 3) := by decide +kernel
theorem dX7_adopts_36 : decode cX7_adopts 36 = .ok (.bipush 58, 2) := by decide +kernel
theorem dX7_adopts_38 : decode cX7_adopts 38 = .ok (.iload_n 3, 1) := by decide +kernel
theorem dX7_adopts_39 : decode cX7_adopts 39 = .ok (.iadd, 1) := by decide +kernel
theorem dX7_adopts_40 : decode cX7_adopts 40 = .ok (.iaload, 1) := by decide +kernel
theorem dX7_adopts_41 : decode cX7_adopts 41 = .ok (.iload 4, 2) := by decide +kernel
theorem dX7_adopts_43 : decode cX7_adopts 43 = .ok (.if_icmp .ne 7, 3) := by decide +kernel
theorem dX7_adopts_46 : decode cX7_adopts 46 = .ok (.iconst 0, 1) := by decide +kernel
theorem dX7_adopts_47 : decode cX7_adopts 47 = .ok (.goto 4, 3) := by decide +kernel
theorem dX7_adopts_50 : decode cX7_adopts 50 = .ok (.iconst 1, 1) := by decide +kernel
theorem dX7_adopts_51 : decode cX7_adopts 51 = .ok (.iadd, 1) := by decide +kernel
theorem dX7_adopts_52 : decode cX7_adopts 52 = .ok (.istore_n 1, 1) := by decide +kernel
theorem dX7_adopts_53 : decode cX7_adopts 53 = .ok (.aload_n 0, 1) := by decide +kernel
theorem dX7_adopts_54 : decode cX7_adopts 54 = .ok (.getfield 7, 3) := by decide +kernel
theorem dX7_adopts_57 : decode cX7_adopts 57 = .ok (.bipush 58, 2) := by decide +kernel
theorem dX7_adopts_59 : decode cX7_adopts 59 = .ok (.iload_n 3, 1) := by decide +kernel
theorem dX7_adopts_60 : decode cX7_adopts 60 = .ok (.iadd, 1) := by decide +kernel
theorem dX7_adopts_61 : decode cX7_adopts 61 = .ok (.iload 4, 2) := by decide +kernel
theorem dX7_adopts_63 : decode cX7_adopts 63 = .ok (.iastore, 1) := by decide +kernel
theorem dX7_adopts_64 : decode cX7_adopts 64 = .ok (.iinc 3 1, 3) := by decide +kernel
theorem dX7_adopts_67 : decode cX7_adopts 67 = .ok (.goto (-55), 3) := by decide +kernel
theorem dX7_adopts_70 : decode cX7_adopts 70 = .ok (.iload_n 1, 1) := by decide +kernel
theorem dX7_adopts_71 : decode cX7_adopts 71 = .ok (.ireturn, 1) := by decide +kernel
set_option maxRecDepth 20000 in
theorem ggX7_adopt_X7_isPlanned : GoodIn wsX7_adopt wsX7_isPlanned := goodIn_r _ [5, 6, 7, 8, 9, 10, 11, 4, 12, 13, 14, 15, 16, 17, 18, 19, 20, 21, 22, 23, 24, 25, 26, 27, 28, 29, 30, 31, 32, 33, 34, 35, 36, 37, 38, 56, 57, 58, 59, 60, 61, 62, 63, 64, 65, 66, 67, 68, 69, 70, 71, 72, 73] (by decide +kernel) (by decide +kernel)
set_option maxRecDepth 20000 in
theorem gX7_adopt_X7_isPlanned : GoodIn wsX7_adopt (wsV RX7 130 RX7 yX7_isPlanned wsX7_isPlanned) := goodIn_app (goodIn_of _ (by decide +kernel)) ggX7_adopt_X7_isPlanned
set_option maxRecDepth 20000 in
theorem ggX7_adopt_X7_records : GoodIn wsX7_adopt wsX7_records := goodIn_r _ [42, 43, 44, 7, 45, 46, 4, 47, 56, 57, 58, 59, 60, 61, 62, 63, 64, 65, 66, 67, 68, 69, 70, 71, 72, 73] (by decide +kernel) (by decide +kernel)
set_option maxRecDepth 20000 in
theorem gX7_adopt_X7_records : GoodIn wsX7_adopt (wsV RX7 51 RX7 yX7_records wsX7_records) := goodIn_app (goodIn_of _ (by decide +kernel)) ggX7_adopt_X7_records
set_option maxRecDepth 20000 in
theorem ggX7_adopt_X7_adopts : GoodIn wsX7_adopt wsX7_adopts := goodIn_r _ [51, 7, 17, 52, 53, 54, 4, 55, 6, 13, 14, 15, 16, 8, 18, 19, 20, 21, 22, 23, 24, 25, 26, 27, 28, 29, 30, 31, 32, 33, 34, 35, 36, 37, 38, 56, 57, 58, 59, 60, 61, 62, 63, 64, 65, 66, 67, 68, 69, 70, 71, 72, 73] (by decide +kernel) (by decide +kernel)
set_option maxRecDepth 20000 in
theorem gX7_adopt_X7_adopts : GoodIn wsX7_adopt (wsV RX7 134 RX7 yX7_adopts wsX7_adopts) := goodIn_app (goodIn_of _ (by decide +kernel)) ggX7_adopt_X7_adopts
theorem dX7_adopt_0 : decode cX7_adopt 0 = .ok (.aload_n 0, 1) := by decide +kernel
theorem dX7_adopt_1 : decode cX7_adopt 1 = .ok (.invokevirtual 130, 3) := by decide +kernel
theorem dX7_adopt_4 : decode cX7_adopt 4 = .ok (.ifCond .ne 6, 3) := by decide +kernel
theorem dX7_adopt_7 : decode cX7_adopt 7 = .ok (.bipush (-5), 2) := by decide +kernel
theorem dX7_adopt_9 : decode cX7_adopt 9 = .ok (.ireturn, 1) := by decide +kernel
theorem dX7_adopt_10 : decode cX7_adopt 10 = .ok (.aload_n 0, 1) := by decide +kernel
theorem dX7_adopt_11 : decode cX7_adopt 11 = .ok (.invokevirtual 51, 3) := by decide +kernel
theorem dX7_adopt_14 : decode cX7_adopt 14 = .ok (.aload_n 0, 1) := by decide +kernel
theorem dX7_adopt_15 : decode cX7_adopt 15 = .ok (.invokevirtual 134, 3) := by decide +kernel
theorem dX7_adopt_18 : decode cX7_adopt 18 = .ok (.ireturn, 1) := by decide +kernel
set_option maxRecDepth 20000 in
theorem ggX7_ofHour_X7_goesTo : GoodIn wsX7_ofHour wsX7_goesTo := goodIn_r _ [12, 1, 6, 5, 13, 14, 15, 11, 16, 3, 4, 17, 2, 41, 42, 43, 44, 45, 46, 47, 48, 49, 50, 51, 52, 53, 54, 55, 56, 57, 58] (by decide +kernel) (by decide +kernel)
set_option maxRecDepth 20000 in
theorem gX7_ofHour_X7_goesTo : GoodIn wsX7_ofHour (wsV RX7 138 RX7 yX7_goesTo wsX7_goesTo) := goodIn_app (goodIn_of _ (by decide +kernel)) ggX7_ofHour_X7_goesTo
set_option maxRecDepth 20000 in
theorem ggX7_ofHour_X7_money : GoodIn wsX7_ofHour wsX7_money := goodIn_r _ [21, 1, 2, 3, 22, 23, 24, 11, 25, 26, 27, 28, 29, 41, 42, 43, 44, 45, 46, 47, 48, 49, 50, 51, 52, 53, 54, 55, 56, 57, 58] (by decide +kernel) (by decide +kernel)
set_option maxRecDepth 20000 in
theorem gX7_ofHour_X7_money : GoodIn wsX7_ofHour (wsV RX7 92 RX7 yX7_money wsX7_money) := goodIn_app (goodIn_of _ (by decide +kernel)) ggX7_ofHour_X7_money
set_option maxRecDepth 20000 in
theorem ggX7_ofHour_X7_trouble : GoodIn wsX7_ofHour wsX7_trouble := goodIn_r _ [33, 2, 1, 17, 5, 34, 35, 36, 11, 37, 26, 27, 28, 29, 22, 23, 24, 25, 41, 42, 43, 44, 45, 46, 47, 48, 49, 50, 51, 52, 53, 54, 55, 56, 57, 58] (by decide +kernel) (by decide +kernel)
set_option maxRecDepth 20000 in
theorem gX7_ofHour_X7_trouble : GoodIn wsX7_ofHour (wsV RX7 142 RX7 yX7_trouble wsX7_trouble) := goodIn_app (goodIn_of _ (by decide +kernel)) ggX7_ofHour_X7_trouble
set_option maxRecDepth 20000 in
theorem ggX7_ofHour_X7_in : GoodIn wsX7_ofHour wsX7_in := goodIn_r _ [40] (by decide +kernel) (by decide +kernel)
set_option maxRecDepth 20000 in
theorem gX7_ofHour_X7_in : GoodIn wsX7_ofHour (va_wsS RX7 35 yX7_in wsX7_in) := goodIn_app (goodIn_of _ (by decide +kernel)) ggX7_ofHour_X7_in
theorem dX7_ofHour_0 : decode cX7_ofHour 0 = .ok (.iload_n 2, 1) := by decide +kernel
theorem dX7_ofHour_1 : decode cX7_ofHour 1 = .ok (.iconst 2, 1) := by decide +kernel
theorem dX7_ofHour_2 : decode cX7_ofHour 2 = .ok (.if_icmp .ge 24, 3) := by decide +kernel
theorem dX7_ofHour_5 : decode cX7_ofHour 5 = .ok (.aload_n 0, 1) := by decide +kernel
theorem dX7_ofHour_6 : decode cX7_ofHour 6 = .ok (.getfield 7, 3) := by decide +kernel
theorem dX7_ofHour_9 : decode cX7_ofHour 9 = .ok (.iload_n 2, 1) := by decide +kernel
theorem dX7_ofHour_10 : decode cX7_ofHour 10 = .ok (.ifCond .ne 10, 3) := by decide +kernel
theorem dX7_ofHour_13 : decode cX7_ofHour 13 = .ok (.bipush 10, 2) := by decide +kernel
theorem dX7_ofHour_15 : decode cX7_ofHour 15 = .ok (.iload_n 1, 1) := by decide +kernel
theorem dX7_ofHour_16 : decode cX7_ofHour 16 = .ok (.iadd, 1) := by decide +kernel
theorem dX7_ofHour_17 : decode cX7_ofHour 17 = .ok (.goto 7, 3) := by decide +kernel
theorem dX7_ofHour_20 : decode cX7_ofHour 20 = .ok (.bipush 34, 2) := by decide +kernel
theorem dX7_ofHour_22 : decode cX7_ofHour 22 = .ok (.iload_n 1, 1) := by decide +kernel
theorem dX7_ofHour_23 : decode cX7_ofHour 23 = .ok (.iadd, 1) := by decide +kernel
theorem dX7_ofHour_24 : decode cX7_ofHour 24 = .ok (.iaload, 1) := by decide +kernel
theorem dX7_ofHour_25 : decode cX7_ofHour 25 = .ok (.ireturn, 1) := by decide +kernel
theorem dX7_ofHour_26 : decode cX7_ofHour 26 = .ok (.iload_n 2, 1) := by decide +kernel
theorem dX7_ofHour_27 : decode cX7_ofHour 27 = .ok (.iconst 2, 1) := by decide +kernel
theorem dX7_ofHour_28 : decode cX7_ofHour 28 = .ok (.if_icmp .ne 16, 3) := by decide +kernel
theorem dX7_ofHour_31 : decode cX7_ofHour 31 = .ok (.aload_n 0, 1) := by decide +kernel
theorem dX7_ofHour_32 : decode cX7_ofHour 32 = .ok (.getfield 7, 3) := by decide +kernel
theorem dX7_ofHour_35 : decode cX7_ofHour 35 = .ok (.bipush 58, 2) := by decide +kernel
theorem dX7_ofHour_37 : decode cX7_ofHour 37 = .ok (.iload_n 1, 1) := by decide +kernel
theorem dX7_ofHour_38 : decode cX7_ofHour 38 = .ok (.iadd, 1) := by decide +kernel
theorem dX7_ofHour_39 : decode cX7_ofHour 39 = .ok (.iaload, 1) := by decide +kernel
theorem dX7_ofHour_40 : decode cX7_ofHour 40 = .ok (.bipush 100, 2) := by decide +kernel
theorem dX7_ofHour_42 : decode cX7_ofHour 42 = .ok (.iadd, 1) := by decide +kernel
theorem dX7_ofHour_43 : decode cX7_ofHour 43 = .ok (.ireturn, 1) := by decide +kernel
theorem dX7_ofHour_44 : decode cX7_ofHour 44 = .ok (.aload_n 0, 1) := by decide +kernel
theorem dX7_ofHour_45 : decode cX7_ofHour 45 = .ok (.iload_n 1, 1) := by decide +kernel
theorem dX7_ofHour_46 : decode cX7_ofHour 46 = .ok (.invokevirtual 138, 3) := by decide +kernel
theorem dX7_ofHour_49 : decode cX7_ofHour 49 = .ok (.istore_n 3, 1) := by decide +kernel
theorem dX7_ofHour_50 : decode cX7_ofHour 50 = .ok (.iload_n 2, 1) := by decide +kernel
theorem dX7_ofHour_51 : decode cX7_ofHour 51 = .ok (.bipush 6, 2) := by decide +kernel
theorem dX7_ofHour_53 : decode cX7_ofHour 53 = .ok (.if_icmp .ge 32, 3) := by decide +kernel
theorem dX7_ofHour_56 : decode cX7_ofHour 56 = .ok (.iload_n 2, 1) := by decide +kernel
theorem dX7_ofHour_57 : decode cX7_ofHour 57 = .ok (.iconst 3, 1) := by decide +kernel
theorem dX7_ofHour_58 : decode cX7_ofHour 58 = .ok (.if_icmp .ne 10, 3) := by decide +kernel
theorem dX7_ofHour_61 : decode cX7_ofHour 61 = .ok (.aload_n 0, 1) := by decide +kernel
theorem dX7_ofHour_62 : decode cX7_ofHour 62 = .ok (.getfield 66, 3) := by decide +kernel
theorem dX7_ofHour_65 : decode cX7_ofHour 65 = .ok (.goto 19, 3) := by decide +kernel
theorem dX7_ofHour_68 : decode cX7_ofHour 68 = .ok (.iload_n 2, 1) := by decide +kernel
theorem dX7_ofHour_69 : decode cX7_ofHour 69 = .ok (.iconst 4, 1) := by decide +kernel
theorem dX7_ofHour_70 : decode cX7_ofHour 70 = .ok (.if_icmp .ne 10, 3) := by decide +kernel
theorem dX7_ofHour_73 : decode cX7_ofHour 73 = .ok (.aload_n 0, 1) := by decide +kernel
theorem dX7_ofHour_74 : decode cX7_ofHour 74 = .ok (.getfield 54, 3) := by decide +kernel
theorem dX7_ofHour_77 : decode cX7_ofHour 77 = .ok (.goto 7, 3) := by decide +kernel
theorem dX7_ofHour_80 : decode cX7_ofHour 80 = .ok (.aload_n 0, 1) := by decide +kernel
theorem dX7_ofHour_81 : decode cX7_ofHour 81 = .ok (.getfield 57, 3) := by decide +kernel
theorem dX7_ofHour_84 : decode cX7_ofHour 84 = .ok (.ireturn, 1) := by decide +kernel
theorem dX7_ofHour_85 : decode cX7_ofHour 85 = .ok (.iload_n 2, 1) := by decide +kernel
theorem dX7_ofHour_86 : decode cX7_ofHour 86 = .ok (.bipush 9, 2) := by decide +kernel
theorem dX7_ofHour_88 : decode cX7_ofHour 88 = .ok (.if_icmp .ge 38, 3) := by decide +kernel
theorem dX7_ofHour_91 : decode cX7_ofHour 91 = .ok (.iload_n 2, 1) := by decide +kernel
theorem dX7_ofHour_92 : decode cX7_ofHour 92 = .ok (.bipush 6, 2) := by decide +kernel
theorem dX7_ofHour_94 : decode cX7_ofHour 94 = .ok (.if_icmp .ne 10, 3) := by decide +kernel
theorem dX7_ofHour_97 : decode cX7_ofHour 97 = .ok (.aload_n 0, 1) := by decide +kernel
theorem dX7_ofHour_98 : decode cX7_ofHour 98 = .ok (.getfield 69, 3) := by decide +kernel
theorem dX7_ofHour_101 : decode cX7_ofHour 101 = .ok (.goto 24, 3) := by decide +kernel
theorem dX7_ofHour_104 : decode cX7_ofHour 104 = .ok (.iload_n 2, 1) := by decide +kernel
theorem dX7_ofHour_105 : decode cX7_ofHour 105 = .ok (.bipush 7, 2) := by decide +kernel
theorem dX7_ofHour_107 : decode cX7_ofHour 107 = .ok (.if_icmp .ne 10, 3) := by decide +kernel
theorem dX7_ofHour_110 : decode cX7_ofHour 110 = .ok (.aload_n 0, 1) := by decide +kernel
theorem dX7_ofHour_111 : decode cX7_ofHour 111 = .ok (.getfield 60, 3) := by decide +kernel
theorem dX7_ofHour_114 : decode cX7_ofHour 114 = .ok (.goto 11, 3) := by decide +kernel
theorem dX7_ofHour_117 : decode cX7_ofHour 117 = .ok (.aload_n 0, 1) := by decide +kernel
theorem dX7_ofHour_118 : decode cX7_ofHour 118 = .ok (.iload_n 1, 1) := by decide +kernel
theorem dX7_ofHour_119 : decode cX7_ofHour 119 = .ok (.invokevirtual 92, 3) := by decide +kernel
theorem dX7_ofHour_122 : decode cX7_ofHour 122 = .ok (.ldc 141, 2) := by decide +kernel
theorem dX7_ofHour_124 : decode cX7_ofHour 124 = .ok (.iadd, 1) := by decide +kernel
theorem dX7_ofHour_125 : decode cX7_ofHour 125 = .ok (.ireturn, 1) := by decide +kernel
theorem dX7_ofHour_126 : decode cX7_ofHour 126 = .ok (.aload_n 0, 1) := by decide +kernel
theorem dX7_ofHour_127 : decode cX7_ofHour 127 = .ok (.iload_n 1, 1) := by decide +kernel
theorem dX7_ofHour_128 : decode cX7_ofHour 128 = .ok (.invokevirtual 142, 3) := by decide +kernel
theorem dX7_ofHour_131 : decode cX7_ofHour 131 = .ok (.istore 4, 2) := by decide +kernel
theorem dX7_ofHour_133 : decode cX7_ofHour 133 = .ok (.iload_n 2, 1) := by decide +kernel
theorem dX7_ofHour_134 : decode cX7_ofHour 134 = .ok (.bipush 9, 2) := by decide +kernel
theorem dX7_ofHour_136 : decode cX7_ofHour 136 = .ok (.if_icmp .ne 8, 3) := by decide +kernel
theorem dX7_ofHour_139 : decode cX7_ofHour 139 = .ok (.iload 4, 2) := by decide +kernel
theorem dX7_ofHour_141 : decode cX7_ofHour 141 = .ok (.goto 19, 3) := by decide +kernel
theorem dX7_ofHour_144 : decode cX7_ofHour 144 = .ok (.iload 4, 2) := by decide +kernel
theorem dX7_ofHour_146 : decode cX7_ofHour 146 = .ok (.iconst 1, 1) := by decide +kernel
theorem dX7_ofHour_147 : decode cX7_ofHour 147 = .ok (.iconst 3, 1) := by decide +kernel
theorem dX7_ofHour_148 : decode cX7_ofHour 148 = .ok (.invokestatic 35, 3) := by decide +kernel
theorem dX7_ofHour_151 : decode cX7_ofHour 151 = .ok (.ifCond .eq 7, 3) := by decide +kernel
theorem dX7_ofHour_154 : decode cX7_ofHour 154 = .ok (.iload_n 3, 1) := by decide +kernel
theorem dX7_ofHour_155 : decode cX7_ofHour 155 = .ok (.goto 5, 3) := by decide +kernel
theorem dX7_ofHour_158 : decode cX7_ofHour 158 = .ok (.bipush (-6), 2) := by decide +kernel
theorem dX7_ofHour_160 : decode cX7_ofHour 160 = .ok (.ireturn, 1) := by decide +kernel
set_option maxRecDepth 20000 in
theorem ggX7_hour_X7_isHour : GoodIn wsX7_hour wsX7_isHour := goodIn_r _ [4, 5, 6, 3, 7] (by decide +kernel) (by decide +kernel)
set_option maxRecDepth 20000 in
theorem gX7_hour_X7_isHour : GoodIn wsX7_hour (va_wsS RX7 107 yX7_isHour wsX7_isHour) := goodIn_app (goodIn_of _ (by decide +kernel)) ggX7_hour_X7_isHour
set_option maxRecDepth 20000 in
theorem ggX7_hour_X7_in : GoodIn wsX7_hour wsX7_in := goodIn_r _ [7] (by decide +kernel) (by decide +kernel)
set_option maxRecDepth 20000 in
theorem gX7_hour_X7_in : GoodIn wsX7_hour (va_wsS RX7 35 yX7_in wsX7_in) := goodIn_app (goodIn_of _ (by decide +kernel)) ggX7_hour_X7_in
set_option maxRecDepth 20000 in
theorem ggX7_hour_X7_ofHour : GoodIn wsX7_hour wsX7_ofHour := goodIn_r _ [11, 12, 13, 14, 15, 16, 17, 18, 19, 20, 21, 3, 22, 23, 24, 25, 26, 27, 28, 29, 30, 31, 32, 33, 34, 35, 36, 37, 38, 39, 40, 41, 42, 43, 44, 45, 46, 47, 5, 6, 7, 48, 49, 50, 51, 52, 53, 54, 55, 56, 57, 58, 59, 60, 61, 62, 63, 64, 65] (by decide +kernel) (by decide +kernel)
set_option maxRecDepth 20000 in
theorem gX7_hour_X7_ofHour : GoodIn wsX7_hour (wsV RX7 145 RX7 yX7_ofHour wsX7_ofHour) := goodIn_app (goodIn_of _ (by decide +kernel)) ggX7_hour_X7_ofHour
theorem dX7_hour_0 : decode cX7_hour 0 = .ok (.iload_n 1, 1) := by decide +kernel
theorem dX7_hour_1 : decode cX7_hour 1 = .ok (.invokestatic 107, 3) := by decide +kernel
theorem dX7_hour_4 : decode cX7_hour 4 = .ok (.ifCond .ne 5, 3) := by decide +kernel
theorem dX7_hour_7 : decode cX7_hour 7 = .ok (.iconst (-1), 1) := by decide +kernel
theorem dX7_hour_8 : decode cX7_hour 8 = .ok (.ireturn, 1) := by decide +kernel
theorem dX7_hour_9 : decode cX7_hour 9 = .ok (.iload_n 2, 1) := by decide +kernel
theorem dX7_hour_10 : decode cX7_hour 10 = .ok (.iconst 0, 1) := by decide +kernel
theorem dX7_hour_11 : decode cX7_hour 11 = .ok (.bipush 10, 2) := by decide +kernel
theorem dX7_hour_13 : decode cX7_hour 13 = .ok (.invokestatic 35, 3) := by decide +kernel
theorem dX7_hour_16 : decode cX7_hour 16 = .ok (.ifCond .eq 12, 3) := by decide +kernel
theorem dX7_hour_19 : decode cX7_hour 19 = .ok (.aload_n 0, 1) := by decide +kernel
theorem dX7_hour_20 : decode cX7_hour 20 = .ok (.iload_n 1, 1) := by decide +kernel
theorem dX7_hour_21 : decode cX7_hour 21 = .ok (.iload_n 2, 1) := by decide +kernel
theorem dX7_hour_22 : decode cX7_hour 22 = .ok (.invokevirtual 145, 3) := by decide +kernel
theorem dX7_hour_25 : decode cX7_hour 25 = .ok (.goto 5, 3) := by decide +kernel
theorem dX7_hour_28 : decode cX7_hour 28 = .ok (.bipush (-2), 2) := by decide +kernel
theorem dX7_hour_30 : decode cX7_hour 30 = .ok (.ireturn, 1) := by decide +kernel
set_option maxRecDepth 20000 in
theorem ggX7_ofContract_X7_in : GoodIn wsX7_ofContract wsX7_in := goodIn_r _ [5] (by decide +kernel) (by decide +kernel)
set_option maxRecDepth 20000 in
theorem gX7_ofContract_X7_in : GoodIn wsX7_ofContract (va_wsS RX7 35 yX7_in wsX7_in) := goodIn_app (goodIn_of _ (by decide +kernel)) ggX7_ofContract_X7_in
set_option maxRecDepth 20000 in
theorem ggX7_ofContract_X7_of : GoodIn wsX7_ofContract wsX7_of := goodIn_r _ [9, 1, 28, 29, 30, 31, 32, 33, 34, 35, 36, 37, 38, 39, 40, 41, 42, 43, 44, 45] (by decide +kernel) (by decide +kernel)
set_option maxRecDepth 20000 in
theorem gX7_ofContract_X7_of : GoodIn wsX7_ofContract (wsV RX7 72 RX7 yX7_of wsX7_of) := goodIn_app (goodIn_of _ (by decide +kernel)) ggX7_ofContract_X7_of
set_option maxRecDepth 20000 in
theorem ggX7_ofContract_X7_goesTo : GoodIn wsX7_ofContract wsX7_goesTo := goodIn_r _ [13, 1, 14, 15, 16, 17, 18, 4, 19, 20, 21, 22, 23, 28, 29, 30, 31, 32, 33, 34, 35, 36, 37, 38, 39, 40, 41, 42, 43, 44, 45] (by decide +kernel) (by decide +kernel)
set_option maxRecDepth 20000 in
theorem gX7_ofContract_X7_goesTo : GoodIn wsX7_ofContract (wsV RX7 138 RX7 yX7_goesTo wsX7_goesTo) := goodIn_app (goodIn_of _ (by decide +kernel)) ggX7_ofContract_X7_goesTo
set_option maxRecDepth 20000 in
theorem ggX7_ofContract_X7_isMissed : GoodIn wsX7_ofContract wsX7_isMissed := goodIn_r _ [27, 23, 6, 7, 8, 4, 9, 1, 28, 29, 30, 31, 32, 33, 34, 35, 36, 37, 38, 39, 40, 41, 42, 43, 44, 45] (by decide +kernel) (by decide +kernel)
set_option maxRecDepth 20000 in
theorem gX7_ofContract_X7_isMissed : GoodIn wsX7_ofContract (wsV RX7 76 RX7 yX7_isMissed wsX7_isMissed) := goodIn_app (goodIn_of _ (by decide +kernel)) ggX7_ofContract_X7_isMissed
theorem dX7_ofContract_0 : decode cX7_ofContract 0 = .ok (.iload_n 1, 1) := by decide +kernel
theorem dX7_ofContract_1 : decode cX7_ofContract 1 = .ok (.iconst 0, 1) := by decide +kernel
theorem dX7_ofContract_2 : decode cX7_ofContract 2 = .ok (.aload_n 0, 1) := by decide +kernel
theorem dX7_ofContract_3 : decode cX7_ofContract 3 = .ok (.getfield 7, 3) := by decide +kernel
theorem dX7_ofContract_6 : decode cX7_ofContract 6 = .ok (.bipush 82, 2) := by decide +kernel
theorem dX7_ofContract_8 : decode cX7_ofContract 8 = .ok (.iaload, 1) := by decide +kernel
theorem dX7_ofContract_9 : decode cX7_ofContract 9 = .ok (.iconst 1, 1) := by decide +kernel
theorem dX7_ofContract_10 : decode cX7_ofContract 10 = .ok (.isub, 1) := by decide +kernel
theorem dX7_ofContract_11 : decode cX7_ofContract 11 = .ok (.invokestatic 35, 3) := by decide +kernel
theorem dX7_ofContract_14 : decode cX7_ofContract 14 = .ok (.ifCond .ne 5, 3) := by decide +kernel
theorem dX7_ofContract_17 : decode cX7_ofContract 17 = .ok (.iconst (-1), 1) := by decide +kernel
theorem dX7_ofContract_18 : decode cX7_ofContract 18 = .ok (.ireturn, 1) := by decide +kernel
theorem dX7_ofContract_19 : decode cX7_ofContract 19 = .ok (.iload_n 2, 1) := by decide +kernel
theorem dX7_ofContract_20 : decode cX7_ofContract 20 = .ok (.iconst 0, 1) := by decide +kernel
theorem dX7_ofContract_21 : decode cX7_ofContract 21 = .ok (.iconst 4, 1) := by decide +kernel
theorem dX7_ofContract_22 : decode cX7_ofContract 22 = .ok (.invokestatic 35, 3) := by decide +kernel
theorem dX7_ofContract_25 : decode cX7_ofContract 25 = .ok (.ifCond .ne 6, 3) := by decide +kernel
theorem dX7_ofContract_28 : decode cX7_ofContract 28 = .ok (.bipush (-2), 2) := by decide +kernel
theorem dX7_ofContract_30 : decode cX7_ofContract 30 = .ok (.ireturn, 1) := by decide +kernel
theorem dX7_ofContract_31 : decode cX7_ofContract 31 = .ok (.iload_n 2, 1) := by decide +kernel
theorem dX7_ofContract_32 : decode cX7_ofContract 32 = .ok (.iconst 4, 1) := by decide +kernel
theorem dX7_ofContract_33 : decode cX7_ofContract 33 = .ok (.if_icmp .ge 10, 3) := by decide +kernel
theorem dX7_ofContract_36 : decode cX7_ofContract 36 = .ok (.aload_n 0, 1) := by decide +kernel
theorem dX7_ofContract_37 : decode cX7_ofContract 37 = .ok (.iload_n 1, 1) := by decide +kernel
theorem dX7_ofContract_38 : decode cX7_ofContract 38 = .ok (.iload_n 2, 1) := by decide +kernel
theorem dX7_ofContract_39 : decode cX7_ofContract 39 = .ok (.invokevirtual 72, 3) := by decide +kernel
theorem dX7_ofContract_42 : decode cX7_ofContract 42 = .ok (.ireturn, 1) := by decide +kernel
theorem dX7_ofContract_43 : decode cX7_ofContract 43 = .ok (.aload_n 0, 1) := by decide +kernel
theorem dX7_ofContract_44 : decode cX7_ofContract 44 = .ok (.aload_n 0, 1) := by decide +kernel
theorem dX7_ofContract_45 : decode cX7_ofContract 45 = .ok (.iload_n 1, 1) := by decide +kernel
theorem dX7_ofContract_46 : decode cX7_ofContract 46 = .ok (.iconst 0, 1) := by decide +kernel
theorem dX7_ofContract_47 : decode cX7_ofContract 47 = .ok (.invokevirtual 72, 3) := by decide +kernel
theorem dX7_ofContract_50 : decode cX7_ofContract 50 = .ok (.invokevirtual 138, 3) := by decide +kernel
theorem dX7_ofContract_53 : decode cX7_ofContract 53 = .ok (.pop, 1) := by decide +kernel
theorem dX7_ofContract_54 : decode cX7_ofContract 54 = .ok (.aload_n 0, 1) := by decide +kernel
theorem dX7_ofContract_55 : decode cX7_ofContract 55 = .ok (.iload_n 1, 1) := by decide +kernel
