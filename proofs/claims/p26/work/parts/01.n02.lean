theorem dX2_copyFrom_18 : decode cX2_copyFrom 18 = .ok (.return_, 1) := by decide +kernel
theorem dX2_settingOf_0 : decode cX2_settingOf 0 = .ok (.iload_n 1, 1) := by decide +kernel
theorem dX2_settingOf_1 : decode cX2_settingOf 1 = .ok (.ifCond .lt 18, 3) := by decide +kernel
theorem dX2_settingOf_4 : decode cX2_settingOf 4 = .ok (.iload_n 1, 1) := by decide +kernel
theorem dX2_settingOf_5 : decode cX2_settingOf 5 = .ok (.bipush 10, 2) := by decide +kernel
theorem dX2_settingOf_7 : decode cX2_settingOf 7 = .ok (.if_icmp .ge 12, 3) := by decide +kernel
theorem dX2_settingOf_10 : decode cX2_settingOf 10 = .ok (.aload_n 0, 1) := by decide +kernel
theorem dX2_settingOf_11 : decode cX2_settingOf 11 = .ok (.getfield 11, 3) := by decide +kernel
theorem dX2_settingOf_14 : decode cX2_settingOf 14 = .ok (.iload_n 1, 1) := by decide +kernel
theorem dX2_settingOf_15 : decode cX2_settingOf 15 = .ok (.iaload, 1) := by decide +kernel
theorem dX2_settingOf_16 : decode cX2_settingOf 16 = .ok (.goto 4, 3) := by decide +kernel
theorem dX2_settingOf_19 : decode cX2_settingOf 19 = .ok (.iconst 0, 1) := by decide +kernel
theorem dX2_settingOf_20 : decode cX2_settingOf 20 = .ok (.ireturn, 1) := by decide +kernel
theorem dX2_priceOf_0 : decode cX2_priceOf 0 = .ok (.iload_n 1, 1) := by decide +kernel
theorem dX2_priceOf_1 : decode cX2_priceOf 1 = .ok (.ifCond .lt 21, 3) := by decide +kernel
theorem dX2_priceOf_4 : decode cX2_priceOf 4 = .ok (.iload_n 1, 1) := by decide +kernel
theorem dX2_priceOf_5 : decode cX2_priceOf 5 = .ok (.bipush 24, 2) := by decide +kernel
theorem dX2_priceOf_7 : decode cX2_priceOf 7 = .ok (.if_icmp .ge 15, 3) := by decide +kernel
theorem dX2_priceOf_10 : decode cX2_priceOf 10 = .ok (.aload_n 0, 1) := by decide +kernel
theorem dX2_priceOf_11 : decode cX2_priceOf 11 = .ok (.getfield 11, 3) := by decide +kernel
theorem dX2_priceOf_14 : decode cX2_priceOf 14 = .ok (.bipush 10, 2) := by decide +kernel
theorem dX2_priceOf_16 : decode cX2_priceOf 16 = .ok (.iload_n 1, 1) := by decide +kernel
theorem dX2_priceOf_17 : decode cX2_priceOf 17 = .ok (.iadd, 1) := by decide +kernel
theorem dX2_priceOf_18 : decode cX2_priceOf 18 = .ok (.iaload, 1) := by decide +kernel
theorem dX2_priceOf_19 : decode cX2_priceOf 19 = .ok (.goto 4, 3) := by decide +kernel
theorem dX2_priceOf_22 : decode cX2_priceOf 22 = .ok (.iconst 0, 1) := by decide +kernel
theorem dX2_priceOf_23 : decode cX2_priceOf 23 = .ok (.ireturn, 1) := by decide +kernel
theorem dX2_inflowOf_0 : decode cX2_inflowOf 0 = .ok (.iload_n 1, 1) := by decide +kernel
theorem dX2_inflowOf_1 : decode cX2_inflowOf 1 = .ok (.ifCond .lt 21, 3) := by decide +kernel
theorem dX2_inflowOf_4 : decode cX2_inflowOf 4 = .ok (.iload_n 1, 1) := by decide +kernel
theorem dX2_inflowOf_5 : decode cX2_inflowOf 5 = .ok (.bipush 24, 2) := by decide +kernel
theorem dX2_inflowOf_7 : decode cX2_inflowOf 7 = .ok (.if_icmp .ge 15, 3) := by decide +kernel
theorem dX2_inflowOf_10 : decode cX2_inflowOf 10 = .ok (.aload_n 0, 1) := by decide +kernel
theorem dX2_inflowOf_11 : decode cX2_inflowOf 11 = .ok (.getfield 11, 3) := by decide +kernel
theorem dX2_inflowOf_14 : decode cX2_inflowOf 14 = .ok (.bipush 34, 2) := by decide +kernel
theorem dX2_inflowOf_16 : decode cX2_inflowOf 16 = .ok (.iload_n 1, 1) := by decide +kernel
theorem dX2_inflowOf_17 : decode cX2_inflowOf 17 = .ok (.iadd, 1) := by decide +kernel
theorem dX2_inflowOf_18 : decode cX2_inflowOf 18 = .ok (.iaload, 1) := by decide +kernel
theorem dX2_inflowOf_19 : decode cX2_inflowOf 19 = .ok (.goto 4, 3) := by decide +kernel
theorem dX2_inflowOf_22 : decode cX2_inflowOf 22 = .ok (.iconst 0, 1) := by decide +kernel
theorem dX2_inflowOf_23 : decode cX2_inflowOf 23 = .ok (.ireturn, 1) := by decide +kernel
theorem dX2_planOf_0 : decode cX2_planOf 0 = .ok (.iload_n 1, 1) := by decide +kernel
theorem dX2_planOf_1 : decode cX2_planOf 1 = .ok (.ifCond .lt 21, 3) := by decide +kernel
theorem dX2_planOf_4 : decode cX2_planOf 4 = .ok (.iload_n 1, 1) := by decide +kernel
theorem dX2_planOf_5 : decode cX2_planOf 5 = .ok (.bipush 24, 2) := by decide +kernel
theorem dX2_planOf_7 : decode cX2_planOf 7 = .ok (.if_icmp .ge 15, 3) := by decide +kernel
theorem dX2_planOf_10 : decode cX2_planOf 10 = .ok (.aload_n 0, 1) := by decide +kernel
theorem dX2_planOf_11 : decode cX2_planOf 11 = .ok (.getfield 11, 3) := by decide +kernel
theorem dX2_planOf_14 : decode cX2_planOf 14 = .ok (.bipush 58, 2) := by decide +kernel
theorem dX2_planOf_16 : decode cX2_planOf 16 = .ok (.iload_n 1, 1) := by decide +kernel
theorem dX2_planOf_17 : decode cX2_planOf 17 = .ok (.iadd, 1) := by decide +kernel
theorem dX2_planOf_18 : decode cX2_planOf 18 = .ok (.iaload, 1) := by decide +kernel
theorem dX2_planOf_19 : decode cX2_planOf 19 = .ok (.goto 4, 3) := by decide +kernel
theorem dX2_planOf_22 : decode cX2_planOf 22 = .ok (.iconst 0, 1) := by decide +kernel
theorem dX2_planOf_23 : decode cX2_planOf 23 = .ok (.ireturn, 1) := by decide +kernel
theorem dX2_contracts_0 : decode cX2_contracts 0 = .ok (.aload_n 0, 1) := by decide +kernel
theorem dX2_contracts_1 : decode cX2_contracts 1 = .ok (.getfield 11, 3) := by decide +kernel
theorem dX2_contracts_4 : decode cX2_contracts 4 = .ok (.bipush 114, 2) := by decide +kernel
theorem dX2_contracts_6 : decode cX2_contracts 6 = .ok (.iaload, 1) := by decide +kernel
theorem dX2_contracts_7 : decode cX2_contracts 7 = .ok (.ireturn, 1) := by decide +kernel
theorem dX2_isContract_0 : decode cX2_isContract 0 = .ok (.iload_n 1, 1) := by decide +kernel
theorem dX2_isContract_1 : decode cX2_isContract 1 = .ok (.ifCond .lt 15, 3) := by decide +kernel
theorem dX2_isContract_4 : decode cX2_isContract 4 = .ok (.iload_n 1, 1) := by decide +kernel
theorem dX2_isContract_5 : decode cX2_isContract 5 = .ok (.aload_n 0, 1) := by decide +kernel
theorem dX2_isContract_6 : decode cX2_isContract 6 = .ok (.invokevirtual 26, 3) := by decide +kernel
theorem dX2_isContract_9 : decode cX2_isContract 9 = .ok (.if_icmp .ge 7, 3) := by decide +kernel
theorem dX2_isContract_12 : decode cX2_isContract 12 = .ok (.iconst 1, 1) := by decide +kernel
theorem dX2_isContract_13 : decode cX2_isContract 13 = .ok (.goto 4, 3) := by decide +kernel
theorem dX2_isContract_16 : decode cX2_isContract 16 = .ok (.iconst 0, 1) := by decide +kernel
theorem dX2_isContract_17 : decode cX2_isContract 17 = .ok (.ireturn, 1) := by decide +kernel
theorem dX2_contractPart_0 : decode cX2_contractPart 0 = .ok (.iload_n 1, 1) := by decide +kernel
theorem dX2_contractPart_1 : decode cX2_contractPart 1 = .ok (.ifCond .lt 22, 3) := by decide +kernel
theorem dX2_contractPart_4 : decode cX2_contractPart 4 = .ok (.iload_n 1, 1) := by decide +kernel
theorem dX2_contractPart_5 : decode cX2_contractPart 5 = .ok (.bipush 8, 2) := by decide +kernel
theorem dX2_contractPart_7 : decode cX2_contractPart 7 = .ok (.if_icmp .ge 16, 3) := by decide +kernel
theorem dX2_contractPart_10 : decode cX2_contractPart 10 = .ok (.iload_n 2, 1) := by decide +kernel
theorem dX2_contractPart_11 : decode cX2_contractPart 11 = .ok (.ifCond .lt 12, 3) := by decide +kernel
theorem dX2_contractPart_14 : decode cX2_contractPart 14 = .ok (.iload_n 2, 1) := by decide +kernel
theorem dX2_contractPart_15 : decode cX2_contractPart 15 = .ok (.iconst 4, 1) := by decide +kernel
theorem dX2_contractPart_16 : decode cX2_contractPart 16 = .ok (.if_icmp .ge 7, 3) := by decide +kernel
theorem dX2_contractPart_19 : decode cX2_contractPart 19 = .ok (.iconst 1, 1) := by decide +kernel
theorem dX2_contractPart_20 : decode cX2_contractPart 20 = .ok (.goto 4, 3) := by decide +kernel
theorem dX2_contractPart_23 : decode cX2_contractPart 23 = .ok (.iconst 0, 1) := by decide +kernel
theorem dX2_contractPart_24 : decode cX2_contractPart 24 = .ok (.istore_n 3, 1) := by decide +kernel
theorem dX2_contractPart_25 : decode cX2_contractPart 25 = .ok (.iload_n 3, 1) := by decide +kernel
theorem dX2_contractPart_26 : decode cX2_contractPart 26 = .ok (.ifCond .eq 19, 3) := by decide +kernel
theorem dX2_contractPart_29 : decode cX2_contractPart 29 = .ok (.aload_n 0, 1) := by decide +kernel
theorem dX2_contractPart_30 : decode cX2_contractPart 30 = .ok (.getfield 11, 3) := by decide +kernel
theorem dX2_contractPart_33 : decode cX2_contractPart 33 = .ok (.bipush 82, 2) := by decide +kernel
theorem dX2_contractPart_35 : decode cX2_contractPart 35 = .ok (.iload_n 1, 1) := by decide +kernel
theorem dX2_contractPart_36 : decode cX2_contractPart 36 = .ok (.iconst 4, 1) := by decide +kernel
theorem dX2_contractPart_37 : decode cX2_contractPart 37 = .ok (.imul, 1) := by decide +kernel
theorem dX2_contractPart_38 : decode cX2_contractPart 38 = .ok (.iadd, 1) := by decide +kernel
theorem dX2_contractPart_39 : decode cX2_contractPart 39 = .ok (.iload_n 2, 1) := by decide +kernel
theorem dX2_contractPart_40 : decode cX2_contractPart 40 = .ok (.iadd, 1) := by decide +kernel
theorem dX2_contractPart_41 : decode cX2_contractPart 41 = .ok (.iaload, 1) := by decide +kernel
theorem dX2_contractPart_42 : decode cX2_contractPart 42 = .ok (.goto 4, 3) := by decide +kernel
theorem dX2_contractPart_45 : decode cX2_contractPart 45 = .ok (.iconst 0, 1) := by decide +kernel
theorem dX2_contractPart_46 : decode cX2_contractPart 46 = .ok (.ireturn, 1) := by decide +kernel
theorem dX2_allInflows_0 : decode cX2_allInflows 0 = .ok (.iconst 0, 1) := by decide +kernel
theorem dX2_allInflows_1 : decode cX2_allInflows 1 = .ok (.istore_n 1, 1) := by decide +kernel
theorem dX2_allInflows_2 : decode cX2_allInflows 2 = .ok (.iconst 0, 1) := by decide +kernel
theorem dX2_allInflows_3 : decode cX2_allInflows 3 = .ok (.istore_n 2, 1) := by decide +kernel
theorem dX2_allInflows_4 : decode cX2_allInflows 4 = .ok (.iload_n 2, 1) := by decide +kernel
theorem dX2_allInflows_5 : decode cX2_allInflows 5 = .ok (.bipush 24, 2) := by decide +kernel
theorem dX2_allInflows_7 : decode cX2_allInflows 7 = .ok (.if_icmp .ge 17, 3) := by decide +kernel
theorem dX2_allInflows_10 : decode cX2_allInflows 10 = .ok (.iload_n 1, 1) := by decide +kernel
theorem dX2_allInflows_11 : decode cX2_allInflows 11 = .ok (.aload_n 0, 1) := by decide +kernel
theorem dX2_allInflows_12 : decode cX2_allInflows 12 = .ok (.iload_n 2, 1) := by decide +kernel
theorem dX2_allInflows_13 : decode cX2_allInflows 13 = .ok (.invokevirtual 30, 3) := by decide +kernel
theorem dX2_allInflows_16 : decode cX2_allInflows 16 = .ok (.iadd, 1) := by decide +kernel
theorem dX2_allInflows_17 : decode cX2_allInflows 17 = .ok (.istore_n 1, 1) := by decide +kernel
theorem dX2_allInflows_18 : decode cX2_allInflows 18 = .ok (.iinc 2 1, 3) := by decide +kernel
theorem dX2_allInflows_21 : decode cX2_allInflows 21 = .ok (.goto (-17), 3) := by decide +kernel
theorem dX2_allInflows_24 : decode cX2_allInflows 24 = .ok (.iload_n 1, 1) := by decide +kernel
theorem dX2_allInflows_25 : decode cX2_allInflows 25 = .ok (.ireturn, 1) := by decide +kernel
theorem dX2_changeSetting_0 : decode cX2_changeSetting 0 = .ok (.iload_n 1, 1) := by decide +kernel
theorem dX2_changeSetting_1 : decode cX2_changeSetting 1 = .ok (.ifCond .lt 22, 3) := by decide +kernel
theorem dX2_changeSetting_4 : decode cX2_changeSetting 4 = .ok (.iload_n 1, 1) := by decide +kernel
theorem dX2_changeSetting_5 : decode cX2_changeSetting 5 = .ok (.bipush 10, 2) := by decide +kernel
theorem dX2_changeSetting_7 : decode cX2_changeSetting 7 = .ok (.if_icmp .ge 16, 3) := by decide +kernel
theorem dX2_changeSetting_10 : decode cX2_changeSetting 10 = .ok (.iload_n 2, 1) := by decide +kernel
theorem dX2_changeSetting_11 : decode cX2_changeSetting 11 = .ok (.ifCond .lt 12, 3) := by decide +kernel
theorem dX2_changeSetting_14 : decode cX2_changeSetting 14 = .ok (.iload_n 2, 1) := by decide +kernel
theorem dX2_changeSetting_15 : decode cX2_changeSetting 15 = .ok (.getstatic 34, 3) := by decide +kernel
theorem dX2_changeSetting_18 : decode cX2_changeSetting 18 = .ok (.iload_n 1, 1) := by decide +kernel
theorem dX2_changeSetting_19 : decode cX2_changeSetting 19 = .ok (.iaload, 1) := by decide +kernel
theorem dX2_changeSetting_20 : decode cX2_changeSetting 20 = .ok (.if_icmp .le 6, 3) := by decide +kernel
theorem dX2_changeSetting_23 : decode cX2_changeSetting 23 = .ok (.bipush (-2), 2) := by decide +kernel
theorem dX2_changeSetting_25 : decode cX2_changeSetting 25 = .ok (.ireturn, 1) := by decide +kernel
theorem dX2_changeSetting_26 : decode cX2_changeSetting 26 = .ok (.aload_n 0, 1) := by decide +kernel
theorem dX2_changeSetting_27 : decode cX2_changeSetting 27 = .ok (.iload_n 1, 1) := by decide +kernel
theorem dX2_changeSetting_28 : decode cX2_changeSetting 28 = .ok (.iload_n 2, 1) := by decide +kernel
theorem dX2_changeSetting_29 : decode cX2_changeSetting 29 = .ok (.invokevirtual 37, 3) := by decide +kernel
theorem dX2_changeSetting_32 : decode cX2_changeSetting 32 = .ok (.ifCond .ne 6, 3) := by decide +kernel
theorem dX2_changeSetting_35 : decode cX2_changeSetting 35 = .ok (.bipush (-5), 2) := by decide +kernel
theorem dX2_changeSetting_37 : decode cX2_changeSetting 37 = .ok (.ireturn, 1) := by decide +kernel
theorem dX2_changeSetting_38 : decode cX2_changeSetting 38 = .ok (.aload_n 0, 1) := by decide +kernel
theorem dX2_changeSetting_39 : decode cX2_changeSetting 39 = .ok (.dup, 1) := by decide +kernel
theorem dX2_changeSetting_40 : decode cX2_changeSetting 40 = .ok (.getfield 15, 3) := by decide +kernel
theorem dX2_changeSetting_43 : decode cX2_changeSetting 43 = .ok (.iconst 1, 1) := by decide +kernel
theorem dX2_changeSetting_44 : decode cX2_changeSetting 44 = .ok (.iadd, 1) := by decide +kernel
theorem dX2_changeSetting_45 : decode cX2_changeSetting 45 = .ok (.putfield 15, 3) := by decide +kernel
theorem dX2_changeSetting_48 : decode cX2_changeSetting 48 = .ok (.aload_n 0, 1) := by decide +kernel
theorem dX2_changeSetting_49 : decode cX2_changeSetting 49 = .ok (.iload_n 1, 1) := by decide +kernel
theorem dX2_changeSetting_50 : decode cX2_changeSetting 50 = .ok (.iload_n 2, 1) := by decide +kernel
theorem dX2_changeSetting_51 : decode cX2_changeSetting 51 = .ok (.invokevirtual 41, 3) := by decide +kernel
theorem dX2_changeSetting_54 : decode cX2_changeSetting 54 = .ok (.ireturn, 1) := by decide +kernel
theorem dX2_fitsTheRest_0 : decode cX2_fitsTheRest 0 = .ok (.iload_n 1, 1) := by decide +kernel
theorem dX2_fitsTheRest_1 : decode cX2_fitsTheRest 1 = .ok (.tableswitch 102 0 6 #[76, 89, 102, 102, 102, 43, 60], 43) := by decide +kernel
theorem dX2_fitsTheRest_44 : decode cX2_fitsTheRest 44 = .ok (.iload_n 2, 1) := by decide +kernel
theorem dX2_fitsTheRest_45 : decode cX2_fitsTheRest 45 = .ok (.aload_n 0, 1) := by decide +kernel
theorem dX2_fitsTheRest_46 : decode cX2_fitsTheRest 46 = .ok (.getfield 11, 3) := by decide +kernel
theorem dX2_fitsTheRest_49 : decode cX2_fitsTheRest 49 = .ok (.bipush 6, 2) := by decide +kernel
theorem dX2_fitsTheRest_51 : decode cX2_fitsTheRest 51 = .ok (.iaload, 1) := by decide +kernel
theorem dX2_fitsTheRest_52 : decode cX2_fitsTheRest 52 = .ok (.if_icmp .gt 7, 3) := by decide +kernel
theorem dX2_fitsTheRest_55 : decode cX2_fitsTheRest 55 = .ok (.iconst 1, 1) := by decide +kernel
theorem dX2_fitsTheRest_56 : decode cX2_fitsTheRest 56 = .ok (.goto 4, 3) := by decide +kernel
theorem dX2_fitsTheRest_59 : decode cX2_fitsTheRest 59 = .ok (.iconst 0, 1) := by decide +kernel
theorem dX2_fitsTheRest_60 : decode cX2_fitsTheRest 60 = .ok (.ireturn, 1) := by decide +kernel
theorem dX2_fitsTheRest_61 : decode cX2_fitsTheRest 61 = .ok (.iload_n 2, 1) := by decide +kernel
theorem dX2_fitsTheRest_62 : decode cX2_fitsTheRest 62 = .ok (.aload_n 0, 1) := by decide +kernel
theorem dX2_fitsTheRest_63 : decode cX2_fitsTheRest 63 = .ok (.getfield 11, 3) := by decide +kernel
theorem dX2_fitsTheRest_66 : decode cX2_fitsTheRest 66 = .ok (.iconst 5, 1) := by decide +kernel
theorem dX2_fitsTheRest_67 : decode cX2_fitsTheRest 67 = .ok (.iaload, 1) := by decide +kernel
theorem dX2_fitsTheRest_68 : decode cX2_fitsTheRest 68 = .ok (.if_icmp .lt 7, 3) := by decide +kernel
theorem dX2_fitsTheRest_71 : decode cX2_fitsTheRest 71 = .ok (.iconst 1, 1) := by decide +kernel
theorem dX2_fitsTheRest_72 : decode cX2_fitsTheRest 72 = .ok (.goto 4, 3) := by decide +kernel
theorem dX2_fitsTheRest_75 : decode cX2_fitsTheRest 75 = .ok (.iconst 0, 1) := by decide +kernel
theorem dX2_fitsTheRest_76 : decode cX2_fitsTheRest 76 = .ok (.ireturn, 1) := by decide +kernel
theorem dX2_fitsTheRest_77 : decode cX2_fitsTheRest 77 = .ok (.aload_n 0, 1) := by decide +kernel
theorem dX2_fitsTheRest_78 : decode cX2_fitsTheRest 78 = .ok (.iload_n 2, 1) := by decide +kernel
theorem dX2_fitsTheRest_79 : decode cX2_fitsTheRest 79 = .ok (.ineg, 1) := by decide +kernel
theorem dX2_fitsTheRest_80 : decode cX2_fitsTheRest 80 = .ok (.aload_n 0, 1) := by decide +kernel
theorem dX2_fitsTheRest_81 : decode cX2_fitsTheRest 81 = .ok (.getfield 11, 3) := by decide +kernel
theorem dX2_fitsTheRest_84 : decode cX2_fitsTheRest 84 = .ok (.iconst 1, 1) := by decide +kernel
theorem dX2_fitsTheRest_85 : decode cX2_fitsTheRest 85 = .ok (.iaload, 1) := by decide +kernel
theorem dX2_fitsTheRest_86 : decode cX2_fitsTheRest 86 = .ok (.invokevirtual 45, 3) := by decide +kernel
theorem dX2_fitsTheRest_89 : decode cX2_fitsTheRest 89 = .ok (.ireturn, 1) := by decide +kernel
theorem dX2_fitsTheRest_90 : decode cX2_fitsTheRest 90 = .ok (.aload_n 0, 1) := by decide +kernel
theorem dX2_fitsTheRest_91 : decode cX2_fitsTheRest 91 = .ok (.aload_n 0, 1) := by decide +kernel
theorem dX2_fitsTheRest_92 : decode cX2_fitsTheRest 92 = .ok (.getfield 11, 3) := by decide +kernel
theorem dX2_fitsTheRest_95 : decode cX2_fitsTheRest 95 = .ok (.iconst 0, 1) := by decide +kernel
theorem dX2_fitsTheRest_96 : decode cX2_fitsTheRest 96 = .ok (.iaload, 1) := by decide +kernel
theorem dX2_fitsTheRest_97 : decode cX2_fitsTheRest 97 = .ok (.ineg, 1) := by decide +kernel
theorem dX2_fitsTheRest_98 : decode cX2_fitsTheRest 98 = .ok (.iload_n 2, 1) := by decide +kernel
theorem dX2_fitsTheRest_99 : decode cX2_fitsTheRest 99 = .ok (.invokevirtual 45, 3) := by decide +kernel
theorem dX2_fitsTheRest_102 : decode cX2_fitsTheRest 102 = .ok (.ireturn, 1) := by decide +kernel
theorem dX2_fitsTheRest_103 : decode cX2_fitsTheRest 103 = .ok (.iconst 1, 1) := by decide +kernel
theorem dX2_fitsTheRest_104 : decode cX2_fitsTheRest 104 = .ok (.ireturn, 1) := by decide +kernel
theorem dX2_plansAreFrom_0 : decode cX2_plansAreFrom 0 = .ok (.iconst 0, 1) := by decide +kernel
theorem dX2_plansAreFrom_1 : decode cX2_plansAreFrom 1 = .ok (.istore_n 3, 1) := by decide +kernel
theorem dX2_plansAreFrom_2 : decode cX2_plansAreFrom 2 = .ok (.iload_n 3, 1) := by decide +kernel
theorem dX2_plansAreFrom_3 : decode cX2_plansAreFrom 3 = .ok (.bipush 24, 2) := by decide +kernel
theorem dX2_plansAreFrom_5 : decode cX2_plansAreFrom 5 = .ok (.if_icmp .ge 29, 3) := by decide +kernel
theorem dX2_plansAreFrom_8 : decode cX2_plansAreFrom 8 = .ok (.aload_n 0, 1) := by decide +kernel
theorem dX2_plansAreFrom_9 : decode cX2_plansAreFrom 9 = .ok (.iload_n 3, 1) := by decide +kernel
theorem dX2_plansAreFrom_10 : decode cX2_plansAreFrom 10 = .ok (.invokevirtual 48, 3) := by decide +kernel
theorem dX2_plansAreFrom_13 : decode cX2_plansAreFrom 13 = .ok (.iload_n 1, 1) := by decide +kernel
theorem dX2_plansAreFrom_14 : decode cX2_plansAreFrom 14 = .ok (.if_icmp .lt 12, 3) := by decide +kernel
theorem dX2_plansAreFrom_17 : decode cX2_plansAreFrom 17 = .ok (.aload_n 0, 1) := by decide +kernel
theorem dX2_plansAreFrom_18 : decode cX2_plansAreFrom 18 = .ok (.iload_n 3, 1) := by decide +kernel
theorem dX2_plansAreFrom_19 : decode cX2_plansAreFrom 19 = .ok (.invokevirtual 48, 3) := by decide +kernel
theorem dX2_plansAreFrom_22 : decode cX2_plansAreFrom 22 = .ok (.iload_n 2, 1) := by decide +kernel
theorem dX2_plansAreFrom_23 : decode cX2_plansAreFrom 23 = .ok (.if_icmp .le 5, 3) := by decide +kernel
theorem dX2_plansAreFrom_26 : decode cX2_plansAreFrom 26 = .ok (.iconst 0, 1) := by decide +kernel
theorem dX2_plansAreFrom_27 : decode cX2_plansAreFrom 27 = .ok (.ireturn, 1) := by decide +kernel
theorem dX2_plansAreFrom_28 : decode cX2_plansAreFrom 28 = .ok (.iinc 3 1, 3) := by decide +kernel
theorem dX2_plansAreFrom_31 : decode cX2_plansAreFrom 31 = .ok (.goto (-29), 3) := by decide +kernel
theorem dX2_plansAreFrom_34 : decode cX2_plansAreFrom 34 = .ok (.iconst 1, 1) := by decide +kernel
theorem dX2_plansAreFrom_35 : decode cX2_plansAreFrom 35 = .ok (.ireturn, 1) := by decide +kernel
theorem dX2_changePrice_0 : decode cX2_changePrice 0 = .ok (.iload_n 1, 1) := by decide +kernel
theorem dX2_changePrice_1 : decode cX2_changePrice 1 = .ok (.invokestatic 51, 3) := by decide +kernel
theorem dX2_changePrice_4 : decode cX2_changePrice 4 = .ok (.ifCond .ne 5, 3) := by decide +kernel
theorem dX2_changePrice_7 : decode cX2_changePrice 7 = .ok (.iconst (-1), 1) := by decide +kernel
theorem dX2_changePrice_8 : decode cX2_changePrice 8 = .ok (.ireturn, 1) := by decide +kernel
theorem dX2_changePrice_9 : decode cX2_changePrice 9 = .ok (.iload_n 2, 1) := by decide +kernel
theorem dX2_changePrice_10 : decode cX2_changePrice 10 = .ok (.ifCond .lt 10, 3) := by decide +kernel
theorem dX2_changePrice_13 : decode cX2_changePrice 13 = .ok (.iload_n 2, 1) := by decide +kernel
theorem dX2_changePrice_14 : decode cX2_changePrice 14 = .ok (.sipush 999, 3) := by decide +kernel
theorem dX2_changePrice_17 : decode cX2_changePrice 17 = .ok (.if_icmp .le 6, 3) := by decide +kernel
theorem dX2_changePrice_20 : decode cX2_changePrice 20 = .ok (.bipush (-2), 2) := by decide +kernel
theorem dX2_changePrice_22 : decode cX2_changePrice 22 = .ok (.ireturn, 1) := by decide +kernel
theorem dX2_changePrice_23 : decode cX2_changePrice 23 = .ok (.aload_n 0, 1) := by decide +kernel
theorem dX2_changePrice_24 : decode cX2_changePrice 24 = .ok (.dup, 1) := by decide +kernel
theorem dX2_changePrice_25 : decode cX2_changePrice 25 = .ok (.getfield 15, 3) := by decide +kernel
theorem dX2_changePrice_28 : decode cX2_changePrice 28 = .ok (.iconst 1, 1) := by decide +kernel
theorem dX2_changePrice_29 : decode cX2_changePrice 29 = .ok (.iadd, 1) := by decide +kernel
theorem dX2_changePrice_30 : decode cX2_changePrice 30 = .ok (.putfield 15, 3) := by decide +kernel
theorem dX2_changePrice_33 : decode cX2_changePrice 33 = .ok (.aload_n 0, 1) := by decide +kernel
theorem dX2_changePrice_34 : decode cX2_changePrice 34 = .ok (.bipush 10, 2) := by decide +kernel
theorem dX2_changePrice_36 : decode cX2_changePrice 36 = .ok (.iload_n 1, 1) := by decide +kernel
theorem dX2_changePrice_37 : decode cX2_changePrice 37 = .ok (.iadd, 1) := by decide +kernel
theorem dX2_changePrice_38 : decode cX2_changePrice 38 = .ok (.iload_n 2, 1) := by decide +kernel
theorem dX2_changePrice_39 : decode cX2_changePrice 39 = .ok (.invokevirtual 41, 3) := by decide +kernel
theorem dX2_changePrice_42 : decode cX2_changePrice 42 = .ok (.ireturn, 1) := by decide +kernel
theorem dX2_changeInflow_0 : decode cX2_changeInflow 0 = .ok (.iload_n 1, 1) := by decide +kernel
theorem dX2_changeInflow_1 : decode cX2_changeInflow 1 = .ok (.invokestatic 51, 3) := by decide +kernel
theorem dX2_changeInflow_4 : decode cX2_changeInflow 4 = .ok (.ifCond .ne 5, 3) := by decide +kernel
theorem dX2_changeInflow_7 : decode cX2_changeInflow 7 = .ok (.iconst (-1), 1) := by decide +kernel
theorem dX2_changeInflow_8 : decode cX2_changeInflow 8 = .ok (.ireturn, 1) := by decide +kernel
theorem dX2_changeInflow_9 : decode cX2_changeInflow 9 = .ok (.iload_n 2, 1) := by decide +kernel
theorem dX2_changeInflow_10 : decode cX2_changeInflow 10 = .ok (.ifCond .lt 9, 3) := by decide +kernel
theorem dX2_changeInflow_13 : decode cX2_changeInflow 13 = .ok (.iload_n 2, 1) := by decide +kernel
theorem dX2_changeInflow_14 : decode cX2_changeInflow 14 = .ok (.bipush 99, 2) := by decide +kernel
theorem dX2_changeInflow_16 : decode cX2_changeInflow 16 = .ok (.if_icmp .le 6, 3) := by decide +kernel
theorem dX2_changeInflow_19 : decode cX2_changeInflow 19 = .ok (.bipush (-2), 2) := by decide +kernel
theorem dX2_changeInflow_21 : decode cX2_changeInflow 21 = .ok (.ireturn, 1) := by decide +kernel
theorem dX2_changeInflow_22 : decode cX2_changeInflow 22 = .ok (.aload_n 0, 1) := by decide +kernel
theorem dX2_changeInflow_23 : decode cX2_changeInflow 23 = .ok (.dup, 1) := by decide +kernel
theorem dX2_changeInflow_24 : decode cX2_changeInflow 24 = .ok (.getfield 15, 3) := by decide +kernel
theorem dX2_changeInflow_27 : decode cX2_changeInflow 27 = .ok (.iconst 1, 1) := by decide +kernel
theorem dX2_changeInflow_28 : decode cX2_changeInflow 28 = .ok (.iadd, 1) := by decide +kernel
theorem dX2_changeInflow_29 : decode cX2_changeInflow 29 = .ok (.putfield 15, 3) := by decide +kernel
theorem dX2_changeInflow_32 : decode cX2_changeInflow 32 = .ok (.aload_n 0, 1) := by decide +kernel
theorem dX2_changeInflow_33 : decode cX2_changeInflow 33 = .ok (.bipush 34, 2) := by decide +kernel
theorem dX2_changeInflow_35 : decode cX2_changeInflow 35 = .ok (.iload_n 1, 1) := by decide +kernel
theorem dX2_changeInflow_36 : decode cX2_changeInflow 36 = .ok (.iadd, 1) := by decide +kernel
theorem dX2_changeInflow_37 : decode cX2_changeInflow 37 = .ok (.iload_n 2, 1) := by decide +kernel
theorem dX2_changeInflow_38 : decode cX2_changeInflow 38 = .ok (.invokevirtual 41, 3) := by decide +kernel
theorem dX2_changeInflow_41 : decode cX2_changeInflow 41 = .ok (.ireturn, 1) := by decide +kernel
theorem dX2_changePlan_0 : decode cX2_changePlan 0 = .ok (.iload_n 1, 1) := by decide +kernel
theorem dX2_changePlan_1 : decode cX2_changePlan 1 = .ok (.invokestatic 51, 3) := by decide +kernel
theorem dX2_changePlan_4 : decode cX2_changePlan 4 = .ok (.ifCond .ne 5, 3) := by decide +kernel
theorem dX2_changePlan_7 : decode cX2_changePlan 7 = .ok (.iconst (-1), 1) := by decide +kernel
theorem dX2_changePlan_8 : decode cX2_changePlan 8 = .ok (.ireturn, 1) := by decide +kernel
theorem dX2_changePlan_9 : decode cX2_changePlan 9 = .ok (.iload_n 2, 1) := by decide +kernel
theorem dX2_changePlan_10 : decode cX2_changePlan 10 = .ok (.aload_n 0, 1) := by decide +kernel
theorem dX2_changePlan_11 : decode cX2_changePlan 11 = .ok (.getfield 11, 3) := by decide +kernel
theorem dX2_changePlan_14 : decode cX2_changePlan 14 = .ok (.iconst 0, 1) := by decide +kernel
theorem dX2_changePlan_15 : decode cX2_changePlan 15 = .ok (.iaload, 1) := by decide +kernel
theorem dX2_changePlan_16 : decode cX2_changePlan 16 = .ok (.ineg, 1) := by decide +kernel
theorem dX2_changePlan_17 : decode cX2_changePlan 17 = .ok (.if_icmp .lt 13, 3) := by decide +kernel
theorem dX2_changePlan_20 : decode cX2_changePlan 20 = .ok (.iload_n 2, 1) := by decide +kernel
theorem dX2_changePlan_21 : decode cX2_changePlan 21 = .ok (.aload_n 0, 1) := by decide +kernel
theorem dX2_changePlan_22 : decode cX2_changePlan 22 = .ok (.getfield 11, 3) := by decide +kernel
theorem dX2_changePlan_25 : decode cX2_changePlan 25 = .ok (.iconst 1, 1) := by decide +kernel
theorem dX2_changePlan_26 : decode cX2_changePlan 26 = .ok (.iaload, 1) := by decide +kernel
theorem dX2_changePlan_27 : decode cX2_changePlan 27 = .ok (.if_icmp .le 6, 3) := by decide +kernel
theorem dX2_changePlan_30 : decode cX2_changePlan 30 = .ok (.bipush (-2), 2) := by decide +kernel
theorem dX2_changePlan_32 : decode cX2_changePlan 32 = .ok (.ireturn, 1) := by decide +kernel
theorem dX2_changePlan_33 : decode cX2_changePlan 33 = .ok (.aload_n 0, 1) := by decide +kernel
theorem dX2_changePlan_34 : decode cX2_changePlan 34 = .ok (.bipush 58, 2) := by decide +kernel
theorem dX2_changePlan_36 : decode cX2_changePlan 36 = .ok (.iload_n 1, 1) := by decide +kernel
theorem dX2_changePlan_37 : decode cX2_changePlan 37 = .ok (.iadd, 1) := by decide +kernel
theorem dX2_changePlan_38 : decode cX2_changePlan 38 = .ok (.iload_n 2, 1) := by decide +kernel
theorem dX2_changePlan_39 : decode cX2_changePlan 39 = .ok (.invokevirtual 41, 3) := by decide +kernel
theorem dX2_changePlan_42 : decode cX2_changePlan 42 = .ok (.bipush 100, 2) := by decide +kernel
theorem dX2_changePlan_44 : decode cX2_changePlan 44 = .ok (.iadd, 1) := by decide +kernel
theorem dX2_changePlan_45 : decode cX2_changePlan 45 = .ok (.ireturn, 1) := by decide +kernel
theorem dX2_replaced_0 : decode cX2_replaced 0 = .ok (.iload_n 1, 1) := by decide +kernel
theorem dX2_replaced_1 : decode cX2_replaced 1 = .ok (.ifCond .lt 9, 3) := by decide +kernel
theorem dX2_replaced_4 : decode cX2_replaced 4 = .ok (.iload_n 1, 1) := by decide +kernel
theorem dX2_replaced_5 : decode cX2_replaced 5 = .ok (.bipush 115, 2) := by decide +kernel
theorem dX2_replaced_7 : decode cX2_replaced 7 = .ok (.if_icmp .lt 6, 3) := by decide +kernel
theorem dX2_replaced_10 : decode cX2_replaced 10 = .ok (.bipush (-2), 2) := by decide +kernel
theorem dX2_replaced_12 : decode cX2_replaced 12 = .ok (.ireturn, 1) := by decide +kernel
theorem dX2_replaced_13 : decode cX2_replaced 13 = .ok (.aload_n 0, 1) := by decide +kernel
theorem dX2_replaced_14 : decode cX2_replaced 14 = .ok (.getfield 11, 3) := by decide +kernel
theorem dX2_replaced_17 : decode cX2_replaced 17 = .ok (.iload_n 1, 1) := by decide +kernel
theorem dX2_replaced_18 : decode cX2_replaced 18 = .ok (.iaload, 1) := by decide +kernel
theorem dX2_replaced_19 : decode cX2_replaced 19 = .ok (.istore_n 3, 1) := by decide +kernel
theorem dX2_replaced_20 : decode cX2_replaced 20 = .ok (.aload_n 0, 1) := by decide +kernel
theorem dX2_replaced_21 : decode cX2_replaced 21 = .ok (.getfield 11, 3) := by decide +kernel
theorem dX2_replaced_24 : decode cX2_replaced 24 = .ok (.iload_n 1, 1) := by decide +kernel
theorem dX2_replaced_25 : decode cX2_replaced 25 = .ok (.iload_n 2, 1) := by decide +kernel
theorem dX2_replaced_26 : decode cX2_replaced 26 = .ok (.iastore, 1) := by decide +kernel
theorem dX2_replaced_27 : decode cX2_replaced 27 = .ok (.iload_n 3, 1) := by decide +kernel
theorem dX2_replaced_28 : decode cX2_replaced 28 = .ok (.ireturn, 1) := by decide +kernel
theorem dX2_addContract_0 : decode cX2_addContract 0 = .ok (.iload_n 1, 1) := by decide +kernel
theorem dX2_addContract_1 : decode cX2_addContract 1 = .ok (.invokestatic 51, 3) := by decide +kernel
theorem dX2_addContract_4 : decode cX2_addContract 4 = .ok (.ifCond .ne 5, 3) := by decide +kernel
theorem dX2_addContract_7 : decode cX2_addContract 7 = .ok (.iconst (-1), 1) := by decide +kernel
theorem dX2_addContract_8 : decode cX2_addContract 8 = .ok (.ireturn, 1) := by decide +kernel
theorem dX2_addContract_9 : decode cX2_addContract 9 = .ok (.iload_n 2, 1) := by decide +kernel
theorem dX2_addContract_10 : decode cX2_addContract 10 = .ok (.iconst 1, 1) := by decide +kernel
theorem dX2_addContract_11 : decode cX2_addContract 11 = .ok (.if_icmp .lt 33, 3) := by decide +kernel
theorem dX2_addContract_14 : decode cX2_addContract 14 = .ok (.iload_n 2, 1) := by decide +kernel
theorem dX2_addContract_15 : decode cX2_addContract 15 = .ok (.bipush 30, 2) := by decide +kernel
theorem dX2_addContract_17 : decode cX2_addContract 17 = .ok (.if_icmp .gt 27, 3) := by decide +kernel
theorem dX2_addContract_20 : decode cX2_addContract 20 = .ok (.iload_n 3, 1) := by decide +kernel
theorem dX2_addContract_21 : decode cX2_addContract 21 = .ok (.ifCond .lt 23, 3) := by decide +kernel
theorem dX2_addContract_24 : decode cX2_addContract 24 = .ok (.iload_n 3, 1) := by decide +kernel
theorem dX2_addContract_25 : decode cX2_addContract 25 = .ok (.sipush 9999, 3) := by decide +kernel
theorem dX2_addContract_28 : decode cX2_addContract 28 = .ok (.if_icmp .gt 16, 3) := by decide +kernel
theorem dX2_addContract_31 : decode cX2_addContract 31 = .ok (.iload 4, 2) := by decide +kernel
theorem dX2_addContract_33 : decode cX2_addContract 33 = .ok (.ifCond .lt 11, 3) := by decide +kernel
theorem dX2_addContract_36 : decode cX2_addContract 36 = .ok (.iload 4, 2) := by decide +kernel
theorem dX2_addContract_38 : decode cX2_addContract 38 = .ok (.sipush 9999, 3) := by decide +kernel
theorem dX2_addContract_41 : decode cX2_addContract 41 = .ok (.if_icmp .le 6, 3) := by decide +kernel
theorem dX2_addContract_44 : decode cX2_addContract 44 = .ok (.bipush (-2), 2) := by decide +kernel
theorem dX2_addContract_46 : decode cX2_addContract 46 = .ok (.ireturn, 1) := by decide +kernel
theorem dX2_addContract_47 : decode cX2_addContract 47 = .ok (.aload_n 0, 1) := by decide +kernel
theorem dX2_addContract_48 : decode cX2_addContract 48 = .ok (.invokevirtual 26, 3) := by decide +kernel
theorem dX2_addContract_51 : decode cX2_addContract 51 = .ok (.istore 5, 2) := by decide +kernel
theorem dX2_addContract_53 : decode cX2_addContract 53 = .ok (.iload 5, 2) := by decide +kernel
theorem dX2_addContract_55 : decode cX2_addContract 55 = .ok (.bipush 8, 2) := by decide +kernel
theorem dX2_addContract_57 : decode cX2_addContract 57 = .ok (.if_icmp .lt 6, 3) := by decide +kernel
theorem dX2_addContract_60 : decode cX2_addContract 60 = .ok (.bipush (-4), 2) := by decide +kernel
theorem dX2_addContract_62 : decode cX2_addContract 62 = .ok (.ireturn, 1) := by decide +kernel
theorem dX2_addContract_63 : decode cX2_addContract 63 = .ok (.bipush 82, 2) := by decide +kernel
theorem dX2_addContract_65 : decode cX2_addContract 65 = .ok (.iload 5, 2) := by decide +kernel
theorem dX2_addContract_67 : decode cX2_addContract 67 = .ok (.iconst 4, 1) := by decide +kernel
theorem dX2_addContract_68 : decode cX2_addContract 68 = .ok (.imul, 1) := by decide +kernel
theorem dX2_addContract_69 : decode cX2_addContract 69 = .ok (.iadd, 1) := by decide +kernel
theorem dX2_addContract_70 : decode cX2_addContract 70 = .ok (.istore 6, 2) := by decide +kernel
theorem dX2_addContract_72 : decode cX2_addContract 72 = .ok (.aload_n 0, 1) := by decide +kernel
theorem dX2_addContract_73 : decode cX2_addContract 73 = .ok (.iload 6, 2) := by decide +kernel
theorem dX2_addContract_75 : decode cX2_addContract 75 = .ok (.iconst 0, 1) := by decide +kernel
theorem dX2_addContract_76 : decode cX2_addContract 76 = .ok (.iadd, 1) := by decide +kernel
theorem dX2_addContract_77 : decode cX2_addContract 77 = .ok (.iload_n 1, 1) := by decide +kernel
theorem dX2_addContract_78 : decode cX2_addContract 78 = .ok (.invokevirtual 41, 3) := by decide +kernel
theorem dX2_addContract_81 : decode cX2_addContract 81 = .ok (.pop, 1) := by decide +kernel
theorem dX2_addContract_82 : decode cX2_addContract 82 = .ok (.aload_n 0, 1) := by decide +kernel
theorem dX2_addContract_83 : decode cX2_addContract 83 = .ok (.iload 6, 2) := by decide +kernel
theorem dX2_addContract_85 : decode cX2_addContract 85 = .ok (.iconst 1, 1) := by decide +kernel
theorem dX2_addContract_86 : decode cX2_addContract 86 = .ok (.iadd, 1) := by decide +kernel
theorem dX2_addContract_87 : decode cX2_addContract 87 = .ok (.iload_n 2, 1) := by decide +kernel
theorem dX2_addContract_88 : decode cX2_addContract 88 = .ok (.invokevirtual 41, 3) := by decide +kernel
theorem dX2_addContract_91 : decode cX2_addContract 91 = .ok (.pop, 1) := by decide +kernel
theorem dX2_addContract_92 : decode cX2_addContract 92 = .ok (.aload_n 0, 1) := by decide +kernel
theorem dX2_addContract_93 : decode cX2_addContract 93 = .ok (.iload 6, 2) := by decide +kernel
theorem dX2_addContract_95 : decode cX2_addContract 95 = .ok (.iconst 2, 1) := by decide +kernel
theorem dX2_addContract_96 : decode cX2_addContract 96 = .ok (.iadd, 1) := by decide +kernel
theorem dX2_addContract_97 : decode cX2_addContract 97 = .ok (.iload_n 3, 1) := by decide +kernel
theorem dX2_addContract_98 : decode cX2_addContract 98 = .ok (.invokevirtual 41, 3) := by decide +kernel
theorem dX2_addContract_101 : decode cX2_addContract 101 = .ok (.pop, 1) := by decide +kernel
theorem dX2_addContract_102 : decode cX2_addContract 102 = .ok (.aload_n 0, 1) := by decide +kernel
theorem dX2_addContract_103 : decode cX2_addContract 103 = .ok (.iload 6, 2) := by decide +kernel
theorem dX2_addContract_105 : decode cX2_addContract 105 = .ok (.iconst 3, 1) := by decide +kernel
theorem dX2_addContract_106 : decode cX2_addContract 106 = .ok (.iadd, 1) := by decide +kernel
theorem dX2_addContract_107 : decode cX2_addContract 107 = .ok (.iload 4, 2) := by decide +kernel
theorem dX2_addContract_109 : decode cX2_addContract 109 = .ok (.invokevirtual 41, 3) := by decide +kernel
theorem dX2_addContract_112 : decode cX2_addContract 112 = .ok (.pop, 1) := by decide +kernel
theorem dX2_addContract_113 : decode cX2_addContract 113 = .ok (.aload_n 0, 1) := by decide +kernel
theorem dX2_addContract_114 : decode cX2_addContract 114 = .ok (.getfield 11, 3) := by decide +kernel
theorem dX2_addContract_117 : decode cX2_addContract 117 = .ok (.bipush 114, 2) := by decide +kernel
theorem dX2_addContract_119 : decode cX2_addContract 119 = .ok (.iload 5, 2) := by decide +kernel
theorem dX2_addContract_121 : decode cX2_addContract 121 = .ok (.iconst 1, 1) := by decide +kernel
theorem dX2_addContract_122 : decode cX2_addContract 122 = .ok (.iadd, 1) := by decide +kernel
theorem dX2_addContract_123 : decode cX2_addContract 123 = .ok (.iastore, 1) := by decide +kernel
theorem dX2_addContract_124 : decode cX2_addContract 124 = .ok (.aload_n 0, 1) := by decide +kernel
theorem dX2_addContract_125 : decode cX2_addContract 125 = .ok (.dup, 1) := by decide +kernel
theorem dX2_addContract_126 : decode cX2_addContract 126 = .ok (.getfield 15, 3) := by decide +kernel
theorem dX2_addContract_129 : decode cX2_addContract 129 = .ok (.iconst 1, 1) := by decide +kernel
theorem dX2_addContract_130 : decode cX2_addContract 130 = .ok (.iadd, 1) := by decide +kernel
theorem dX2_addContract_131 : decode cX2_addContract 131 = .ok (.putfield 15, 3) := by decide +kernel
theorem dX2_addContract_134 : decode cX2_addContract 134 = .ok (.iload 5, 2) := by decide +kernel
theorem dX2_addContract_136 : decode cX2_addContract 136 = .ok (.ireturn, 1) := by decide +kernel
theorem dX2_removeContract_0 : decode cX2_removeContract 0 = .ok (.aload_n 0, 1) := by decide +kernel
theorem dX2_removeContract_1 : decode cX2_removeContract 1 = .ok (.iload_n 1, 1) := by decide +kernel
theorem dX2_removeContract_2 : decode cX2_removeContract 2 = .ok (.invokevirtual 55, 3) := by decide +kernel
theorem dX2_removeContract_5 : decode cX2_removeContract 5 = .ok (.ifCond .ne 5, 3) := by decide +kernel
theorem dX2_removeContract_8 : decode cX2_removeContract 8 = .ok (.iconst (-1), 1) := by decide +kernel
theorem dX2_removeContract_9 : decode cX2_removeContract 9 = .ok (.ireturn, 1) := by decide +kernel
theorem dX2_removeContract_10 : decode cX2_removeContract 10 = .ok (.bipush 82, 2) := by decide +kernel
theorem dX2_removeContract_12 : decode cX2_removeContract 12 = .ok (.iload_n 1, 1) := by decide +kernel
theorem dX2_removeContract_13 : decode cX2_removeContract 13 = .ok (.iconst 4, 1) := by decide +kernel
theorem dX2_removeContract_14 : decode cX2_removeContract 14 = .ok (.imul, 1) := by decide +kernel
theorem dX2_removeContract_15 : decode cX2_removeContract 15 = .ok (.iadd, 1) := by decide +kernel
theorem dX2_removeContract_16 : decode cX2_removeContract 16 = .ok (.istore_n 2, 1) := by decide +kernel
theorem dX2_removeContract_17 : decode cX2_removeContract 17 = .ok (.iload_n 2, 1) := by decide +kernel
theorem dX2_removeContract_18 : decode cX2_removeContract 18 = .ok (.iconst 4, 1) := by decide +kernel
theorem dX2_removeContract_19 : decode cX2_removeContract 19 = .ok (.iadd, 1) := by decide +kernel
theorem dX2_removeContract_20 : decode cX2_removeContract 20 = .ok (.bipush 114, 2) := by decide +kernel
theorem dX2_removeContract_22 : decode cX2_removeContract 22 = .ok (.if_icmp .ge 23, 3) := by decide +kernel
theorem dX2_removeContract_25 : decode cX2_removeContract 25 = .ok (.aload_n 0, 1) := by decide +kernel
theorem dX2_removeContract_26 : decode cX2_removeContract 26 = .ok (.getfield 11, 3) := by decide +kernel
theorem dX2_removeContract_29 : decode cX2_removeContract 29 = .ok (.iload_n 2, 1) := by decide +kernel
theorem dX2_removeContract_30 : decode cX2_removeContract 30 = .ok (.aload_n 0, 1) := by decide +kernel
theorem dX2_removeContract_31 : decode cX2_removeContract 31 = .ok (.getfield 11, 3) := by decide +kernel
theorem dX2_removeContract_34 : decode cX2_removeContract 34 = .ok (.iload_n 2, 1) := by decide +kernel
theorem dX2_removeContract_35 : decode cX2_removeContract 35 = .ok (.iconst 4, 1) := by decide +kernel
theorem dX2_removeContract_36 : decode cX2_removeContract 36 = .ok (.iadd, 1) := by decide +kernel
theorem dX2_removeContract_37 : decode cX2_removeContract 37 = .ok (.iaload, 1) := by decide +kernel
theorem dX2_removeContract_38 : decode cX2_removeContract 38 = .ok (.iastore, 1) := by decide +kernel
theorem dX2_removeContract_39 : decode cX2_removeContract 39 = .ok (.iinc 2 1, 3) := by decide +kernel
theorem dX2_removeContract_42 : decode cX2_removeContract 42 = .ok (.goto (-25), 3) := by decide +kernel
theorem dX2_removeContract_45 : decode cX2_removeContract 45 = .ok (.aload_n 0, 1) := by decide +kernel
theorem dX2_removeContract_46 : decode cX2_removeContract 46 = .ok (.getfield 11, 3) := by decide +kernel
