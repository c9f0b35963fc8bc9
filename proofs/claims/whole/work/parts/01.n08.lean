theorem dX6_count_10 : decode cX6_count 10 = .ok (.aload_n 0, 1) := by decide +kernel
theorem dX6_count_11 : decode cX6_count 11 = .ok (.getfield 10, 3) := by decide +kernel
theorem dX6_count_14 : decode cX6_count 14 = .ok (.iload_n 1, 1) := by decide +kernel
theorem dX6_count_15 : decode cX6_count 15 = .ok (.invokevirtual 162, 3) := by decide +kernel
theorem dX6_count_18 : decode cX6_count 18 = .ok (.ireturn, 1) := by decide +kernel
theorem dX6_count_19 : decode cX6_count 19 = .ok (.iload_n 1, 1) := by decide +kernel
theorem dX6_count_20 : decode cX6_count 20 = .ok (.tableswitch 52 10 12 #[28, 36, 44], 28) := by decide +kernel
theorem dX6_count_48 : decode cX6_count 48 = .ok (.aload_n 0, 1) := by decide +kernel
theorem dX6_count_49 : decode cX6_count 49 = .ok (.getfield 10, 3) := by decide +kernel
theorem dX6_count_52 : decode cX6_count 52 = .ok (.invokevirtual 171, 3) := by decide +kernel
theorem dX6_count_55 : decode cX6_count 55 = .ok (.ireturn, 1) := by decide +kernel
theorem dX6_count_56 : decode cX6_count 56 = .ok (.aload_n 0, 1) := by decide +kernel
theorem dX6_count_57 : decode cX6_count 57 = .ok (.getfield 35, 3) := by decide +kernel
theorem dX6_count_60 : decode cX6_count 60 = .ok (.getfield 174, 3) := by decide +kernel
theorem dX6_count_63 : decode cX6_count 63 = .ok (.ireturn, 1) := by decide +kernel
theorem dX6_count_64 : decode cX6_count 64 = .ok (.aload_n 0, 1) := by decide +kernel
theorem dX6_count_65 : decode cX6_count 65 = .ok (.getfield 51, 3) := by decide +kernel
theorem dX6_count_68 : decode cX6_count 68 = .ok (.getfield 178, 3) := by decide +kernel
theorem dX6_count_71 : decode cX6_count 71 = .ok (.ireturn, 1) := by decide +kernel
theorem dX6_count_72 : decode cX6_count 72 = .ok (.bipush (-2), 2) := by decide +kernel
theorem dX6_count_74 : decode cX6_count 74 = .ok (.ireturn, 1) := by decide +kernel
set_option maxRecDepth 20000 in
theorem ggX6_best_X5_solve : GoodIn wsX6_best wsX5_solve := goodIn_r _ [8, 9, 10, 11, 12, 13, 14, 15, 16, 17, 18, 19, 20, 21, 22, 23, 24, 6, 25, 26, 27, 28, 29, 30, 31, 32, 33, 34, 35, 36, 37, 38, 39, 40, 41, 42, 43, 44, 45, 46, 47, 48, 49, 50, 51, 52, 53, 54, 55, 56, 57, 58, 59, 60, 61, 62, 63, 64, 65, 66, 67, 68, 69, 70, 71, 72, 73, 74, 75, 76, 77, 78, 79, 80, 81, 82, 83, 84, 85, 86, 87, 88, 89, 90, 91, 92, 93, 94, 95, 96, 97, 98, 99, 100, 101, 102, 103, 104, 105, 106, 107, 108, 109, 110, 111, 112, 121, 122, 123, 124, 125, 126, 127, 128, 129, 130, 131] (by decide +kernel) (by decide +kernel)
set_option maxRecDepth 20000 in
theorem gX6_best_X5_solve_n179 : GoodIn wsX6_best (wsX5_solve) := ggX6_best_X5_solve
set_option maxRecDepth 20000 in
theorem ggX6_best_X2_settingOf : GoodIn wsX6_best wsX2_settingOf := goodIn_r _ [17, 18, 130, 131] (by decide +kernel) (by decide +kernel)
set_option maxRecDepth 20000 in
theorem gX6_best_X2_settingOf_n162 : GoodIn wsX6_best (wsX2_settingOf) := ggX6_best_X2_settingOf
set_option maxRecDepth 20000 in
theorem ggX6_best_X5_mostFrom : GoodIn wsX6_best wsX5_mostFrom := goodIn_r _ [54, 12, 11, 121, 122, 123, 124, 125, 126, 127, 128, 129] (by decide +kernel) (by decide +kernel)
set_option maxRecDepth 20000 in
theorem gX6_best_X5_mostFrom_n182 : GoodIn wsX6_best (wsX5_mostFrom) := ggX6_best_X5_mostFrom
theorem dX6_best_0 : decode cX6_best 0 = .ok (.aload_n 0, 1) := by decide +kernel
theorem dX6_best_1 : decode cX6_best 1 = .ok (.getfield 28, 3) := by decide +kernel
theorem dX6_best_4 : decode cX6_best 4 = .ok (.invokevirtual 179, 3) := by decide +kernel
theorem dX6_best_7 : decode cX6_best 7 = .ok (.aload_n 0, 1) := by decide +kernel
theorem dX6_best_8 : decode cX6_best 8 = .ok (.getfield 28, 3) := by decide +kernel
theorem dX6_best_11 : decode cX6_best 11 = .ok (.iconst 0, 1) := by decide +kernel
theorem dX6_best_12 : decode cX6_best 12 = .ok (.aload_n 0, 1) := by decide +kernel
theorem dX6_best_13 : decode cX6_best 13 = .ok (.getfield 10, 3) := by decide +kernel
theorem dX6_best_16 : decode cX6_best 16 = .ok (.bipush 7, 2) := by decide +kernel
theorem dX6_best_18 : decode cX6_best 18 = .ok (.invokevirtual 162, 3) := by decide +kernel
theorem dX6_best_21 : decode cX6_best 21 = .ok (.invokevirtual 182, 3) := by decide +kernel
theorem dX6_best_24 : decode cX6_best 24 = .ok (.istore_n 1, 1) := by decide +kernel
theorem dX6_best_25 : decode cX6_best 25 = .ok (.iload_n 1, 1) := by decide +kernel
theorem dX6_best_26 : decode cX6_best 26 = .ok (.ldc 185, 2) := by decide +kernel
theorem dX6_best_28 : decode cX6_best 28 = .ok (.if_icmp .ne 8, 3) := by decide +kernel
theorem dX6_best_31 : decode cX6_best 31 = .ok (.bipush (-6), 2) := by decide +kernel
theorem dX6_best_33 : decode cX6_best 33 = .ok (.goto 7, 3) := by decide +kernel
theorem dX6_best_36 : decode cX6_best 36 = .ok (.iload_n 1, 1) := by decide +kernel
theorem dX6_best_37 : decode cX6_best 37 = .ok (.ldc 186, 2) := by decide +kernel
theorem dX6_best_39 : decode cX6_best 39 = .ok (.iadd, 1) := by decide +kernel
theorem dX6_best_40 : decode cX6_best 40 = .ok (.ireturn, 1) := by decide +kernel
set_option maxRecDepth 20000 in
theorem ggX6_bestPlan_X6_isHour : GoodIn wsX6_bestPlan wsX6_isHour := goodIn_r _ [5] (by decide +kernel) (by decide +kernel)
set_option maxRecDepth 20000 in
theorem gX6_bestPlan_X6_isHour : GoodIn wsX6_bestPlan (va_wsS RX6 95 yX6_isHour wsX6_isHour) := goodIn_app (goodIn_of _ (by decide +kernel)) ggX6_bestPlan_X6_isHour
set_option maxRecDepth 20000 in
theorem ggX6_bestPlan_X5_solve : GoodIn wsX6_bestPlan wsX5_solve := goodIn_r _ [9, 10, 11, 12, 13, 14, 15, 16, 17, 18, 19, 20, 21, 22, 23, 24, 25, 7, 26, 27, 28, 29, 30, 31, 32, 33, 34, 35, 36, 37, 38, 39, 40, 41, 42, 43, 44, 45, 46, 47, 48, 49, 50, 51, 52, 53, 54, 55, 56, 57, 58, 59, 60, 61, 62, 63, 64, 65, 66, 67, 68, 69, 70, 71, 3, 4, 5, 72, 73, 74, 75, 76, 77, 78, 79, 80, 81, 82, 83, 84, 85, 86, 87, 88, 89, 90, 91, 92, 93, 94, 95, 96, 97, 98, 99, 100, 101, 102, 103, 104, 105, 106, 107, 108, 109, 110, 119, 120, 121, 122, 123, 124, 125, 126, 127, 128, 129] (by decide +kernel) (by decide +kernel)
set_option maxRecDepth 20000 in
theorem gX6_bestPlan_X5_solve_n179 : GoodIn wsX6_bestPlan (wsX5_solve) := ggX6_bestPlan_X5_solve
theorem dX6_bestPlan_0 : decode cX6_bestPlan 0 = .ok (.iload_n 1, 1) := by decide +kernel
theorem dX6_bestPlan_1 : decode cX6_bestPlan 1 = .ok (.invokestatic 95, 3) := by decide +kernel
theorem dX6_bestPlan_4 : decode cX6_bestPlan 4 = .ok (.ifCond .ne 5, 3) := by decide +kernel
theorem dX6_bestPlan_7 : decode cX6_bestPlan 7 = .ok (.iconst (-1), 1) := by decide +kernel
theorem dX6_bestPlan_8 : decode cX6_bestPlan 8 = .ok (.ireturn, 1) := by decide +kernel
theorem dX6_bestPlan_9 : decode cX6_bestPlan 9 = .ok (.aload_n 0, 1) := by decide +kernel
theorem dX6_bestPlan_10 : decode cX6_bestPlan 10 = .ok (.getfield 28, 3) := by decide +kernel
theorem dX6_bestPlan_13 : decode cX6_bestPlan 13 = .ok (.invokevirtual 179, 3) := by decide +kernel
theorem dX6_bestPlan_16 : decode cX6_bestPlan 16 = .ok (.aload_n 0, 1) := by decide +kernel
theorem dX6_bestPlan_17 : decode cX6_bestPlan 17 = .ok (.getfield 28, 3) := by decide +kernel
theorem dX6_bestPlan_20 : decode cX6_bestPlan 20 = .ok (.getfield 187, 3) := by decide +kernel
theorem dX6_bestPlan_23 : decode cX6_bestPlan 23 = .ok (.ifCond .eq 18, 3) := by decide +kernel
theorem dX6_bestPlan_26 : decode cX6_bestPlan 26 = .ok (.aload_n 0, 1) := by decide +kernel
theorem dX6_bestPlan_27 : decode cX6_bestPlan 27 = .ok (.getfield 28, 3) := by decide +kernel
theorem dX6_bestPlan_30 : decode cX6_bestPlan 30 = .ok (.getfield 191, 3) := by decide +kernel
theorem dX6_bestPlan_33 : decode cX6_bestPlan 33 = .ok (.iload_n 1, 1) := by decide +kernel
theorem dX6_bestPlan_34 : decode cX6_bestPlan 34 = .ok (.iaload, 1) := by decide +kernel
theorem dX6_bestPlan_35 : decode cX6_bestPlan 35 = .ok (.bipush 100, 2) := by decide +kernel
theorem dX6_bestPlan_37 : decode cX6_bestPlan 37 = .ok (.iadd, 1) := by decide +kernel
theorem dX6_bestPlan_38 : decode cX6_bestPlan 38 = .ok (.goto 5, 3) := by decide +kernel
theorem dX6_bestPlan_41 : decode cX6_bestPlan 41 = .ok (.bipush (-6), 2) := by decide +kernel
theorem dX6_bestPlan_43 : decode cX6_bestPlan 43 = .ok (.ireturn, 1) := by decide +kernel
set_option maxRecDepth 20000 in
theorem ggX6_worth_X2_settingOf : GoodIn wsX6_worth wsX2_settingOf := goodIn_r _ [8, 9, 121, 122] (by decide +kernel) (by decide +kernel)
set_option maxRecDepth 20000 in
theorem gX6_worth_X2_settingOf_n162 : GoodIn wsX6_worth (wsX2_settingOf) := ggX6_worth_X2_settingOf
set_option maxRecDepth 20000 in
theorem ggX6_worth_X5_solve : GoodIn wsX6_worth wsX5_solve := goodIn_r _ [13, 14, 15, 16, 17, 18, 5, 6, 7, 8, 9, 19, 20, 21, 22, 23, 24, 11, 25, 26, 27, 28, 29, 30, 31, 32, 33, 34, 35, 36, 37, 38, 39, 40, 41, 42, 43, 44, 45, 46, 47, 48, 49, 50, 51, 52, 53, 54, 55, 56, 57, 58, 59, 60, 61, 62, 63, 64, 65, 66, 67, 68, 69, 70, 71, 72, 73, 74, 75, 76, 77, 78, 79, 80, 81, 82, 83, 84, 85, 86, 87, 88, 89, 90, 91, 92, 93, 94, 95, 96, 97, 98, 99, 100, 101, 102, 103, 104, 105, 106, 107, 108, 109, 110, 111, 112, 123, 124, 125, 126, 127, 128, 129, 130, 131, 121, 122] (by decide +kernel) (by decide +kernel)
set_option maxRecDepth 20000 in
theorem gX6_worth_X5_solve_n179 : GoodIn wsX6_worth (wsX5_solve) := ggX6_worth_X5_solve
set_option maxRecDepth 20000 in
theorem ggX6_worth_X5_mostFrom : GoodIn wsX6_worth wsX5_mostFrom := goodIn_r _ [54, 17, 16, 123, 124, 125, 126, 127, 128, 129, 130, 131] (by decide +kernel) (by decide +kernel)
set_option maxRecDepth 20000 in
theorem gX6_worth_X5_mostFrom_n182 : GoodIn wsX6_worth (wsX5_mostFrom) := ggX6_worth_X5_mostFrom
theorem dX6_worth_0 : decode cX6_worth 0 = .ok (.iload_n 1, 1) := by decide +kernel
theorem dX6_worth_1 : decode cX6_worth 1 = .ok (.sipush (-200), 3) := by decide +kernel
theorem dX6_worth_4 : decode cX6_worth 4 = .ok (.if_icmp .lt 10, 3) := by decide +kernel
theorem dX6_worth_7 : decode cX6_worth 7 = .ok (.iload_n 1, 1) := by decide +kernel
theorem dX6_worth_8 : decode cX6_worth 8 = .ok (.sipush 200, 3) := by decide +kernel
theorem dX6_worth_11 : decode cX6_worth 11 = .ok (.if_icmp .le 6, 3) := by decide +kernel
theorem dX6_worth_14 : decode cX6_worth 14 = .ok (.bipush (-2), 2) := by decide +kernel
theorem dX6_worth_16 : decode cX6_worth 16 = .ok (.ireturn, 1) := by decide +kernel
theorem dX6_worth_17 : decode cX6_worth 17 = .ok (.aload_n 0, 1) := by decide +kernel
theorem dX6_worth_18 : decode cX6_worth 18 = .ok (.getfield 10, 3) := by decide +kernel
theorem dX6_worth_21 : decode cX6_worth 21 = .ok (.bipush 7, 2) := by decide +kernel
theorem dX6_worth_23 : decode cX6_worth 23 = .ok (.invokevirtual 162, 3) := by decide +kernel
theorem dX6_worth_26 : decode cX6_worth 26 = .ok (.istore_n 2, 1) := by decide +kernel
theorem dX6_worth_27 : decode cX6_worth 27 = .ok (.iload_n 2, 1) := by decide +kernel
theorem dX6_worth_28 : decode cX6_worth 28 = .ok (.iload_n 1, 1) := by decide +kernel
theorem dX6_worth_29 : decode cX6_worth 29 = .ok (.iadd, 1) := by decide +kernel
theorem dX6_worth_30 : decode cX6_worth 30 = .ok (.ifCond .lt 12, 3) := by decide +kernel
theorem dX6_worth_33 : decode cX6_worth 33 = .ok (.iload_n 2, 1) := by decide +kernel
theorem dX6_worth_34 : decode cX6_worth 34 = .ok (.iload_n 1, 1) := by decide +kernel
theorem dX6_worth_35 : decode cX6_worth 35 = .ok (.iadd, 1) := by decide +kernel
theorem dX6_worth_36 : decode cX6_worth 36 = .ok (.sipush 200, 3) := by decide +kernel
theorem dX6_worth_39 : decode cX6_worth 39 = .ok (.if_icmp .le 6, 3) := by decide +kernel
theorem dX6_worth_42 : decode cX6_worth 42 = .ok (.bipush (-2), 2) := by decide +kernel
theorem dX6_worth_44 : decode cX6_worth 44 = .ok (.ireturn, 1) := by decide +kernel
theorem dX6_worth_45 : decode cX6_worth 45 = .ok (.aload_n 0, 1) := by decide +kernel
theorem dX6_worth_46 : decode cX6_worth 46 = .ok (.getfield 28, 3) := by decide +kernel
theorem dX6_worth_49 : decode cX6_worth 49 = .ok (.invokevirtual 179, 3) := by decide +kernel
theorem dX6_worth_52 : decode cX6_worth 52 = .ok (.aload_n 0, 1) := by decide +kernel
theorem dX6_worth_53 : decode cX6_worth 53 = .ok (.getfield 28, 3) := by decide +kernel
theorem dX6_worth_56 : decode cX6_worth 56 = .ok (.iconst 0, 1) := by decide +kernel
theorem dX6_worth_57 : decode cX6_worth 57 = .ok (.iload_n 2, 1) := by decide +kernel
theorem dX6_worth_58 : decode cX6_worth 58 = .ok (.invokevirtual 182, 3) := by decide +kernel
theorem dX6_worth_61 : decode cX6_worth 61 = .ok (.istore_n 3, 1) := by decide +kernel
theorem dX6_worth_62 : decode cX6_worth 62 = .ok (.aload_n 0, 1) := by decide +kernel
theorem dX6_worth_63 : decode cX6_worth 63 = .ok (.getfield 28, 3) := by decide +kernel
theorem dX6_worth_66 : decode cX6_worth 66 = .ok (.iconst 0, 1) := by decide +kernel
theorem dX6_worth_67 : decode cX6_worth 67 = .ok (.iload_n 2, 1) := by decide +kernel
theorem dX6_worth_68 : decode cX6_worth 68 = .ok (.iload_n 1, 1) := by decide +kernel
theorem dX6_worth_69 : decode cX6_worth 69 = .ok (.iadd, 1) := by decide +kernel
theorem dX6_worth_70 : decode cX6_worth 70 = .ok (.invokevirtual 182, 3) := by decide +kernel
theorem dX6_worth_73 : decode cX6_worth 73 = .ok (.istore 4, 2) := by decide +kernel
theorem dX6_worth_75 : decode cX6_worth 75 = .ok (.iload_n 3, 1) := by decide +kernel
theorem dX6_worth_76 : decode cX6_worth 76 = .ok (.ldc 185, 2) := by decide +kernel
theorem dX6_worth_78 : decode cX6_worth 78 = .ok (.if_icmp .eq 10, 3) := by decide +kernel
theorem dX6_worth_81 : decode cX6_worth 81 = .ok (.iload 4, 2) := by decide +kernel
theorem dX6_worth_83 : decode cX6_worth 83 = .ok (.ldc 185, 2) := by decide +kernel
theorem dX6_worth_85 : decode cX6_worth 85 = .ok (.if_icmp .ne 6, 3) := by decide +kernel
theorem dX6_worth_88 : decode cX6_worth 88 = .ok (.bipush (-6), 2) := by decide +kernel
theorem dX6_worth_90 : decode cX6_worth 90 = .ok (.ireturn, 1) := by decide +kernel
theorem dX6_worth_91 : decode cX6_worth 91 = .ok (.iload 4, 2) := by decide +kernel
theorem dX6_worth_93 : decode cX6_worth 93 = .ok (.iload_n 3, 1) := by decide +kernel
theorem dX6_worth_94 : decode cX6_worth 94 = .ok (.isub, 1) := by decide +kernel
theorem dX6_worth_95 : decode cX6_worth 95 = .ok (.ldc 186, 2) := by decide +kernel
theorem dX6_worth_97 : decode cX6_worth 97 = .ok (.iadd, 1) := by decide +kernel
theorem dX6_worth_98 : decode cX6_worth 98 = .ok (.ireturn, 1) := by decide +kernel
set_option maxRecDepth 20000 in
theorem ggX6_highest_X2_highestInTheEnd : GoodIn wsX6_highest wsX2_highestInTheEnd := goodIn_r _ [5, 6, 7, 8, 9, 3, 10, 11, 12, 13, 14, 15, 16, 17, 18, 19, 20, 21, 22, 23, 24, 25, 26, 27, 28, 29, 30, 31, 32, 33, 34, 35, 36, 37, 38, 39, 40, 41, 42, 43, 44, 53, 54] (by decide +kernel) (by decide +kernel)
set_option maxRecDepth 20000 in
theorem gX6_highest_X2_highestInTheEnd_n194 : GoodIn wsX6_highest (wsX2_highestInTheEnd) := ggX6_highest_X2_highestInTheEnd
theorem dX6_highest_0 : decode cX6_highest 0 = .ok (.aload_n 0, 1) := by decide +kernel
theorem dX6_highest_1 : decode cX6_highest 1 = .ok (.getfield 10, 3) := by decide +kernel
theorem dX6_highest_4 : decode cX6_highest 4 = .ok (.invokevirtual 194, 3) := by decide +kernel
theorem dX6_highest_7 : decode cX6_highest 7 = .ok (.ireturn, 1) := by decide +kernel
set_option maxRecDepth 20000 in
theorem ggX6_put_X3_append : GoodIn wsX6_put wsX3_append := goodIn_r _ [5, 6, 7, 8, 9, 10, 19, 20] (by decide +kernel) (by decide +kernel)
set_option maxRecDepth 20000 in
theorem gX6_put_X3_append_n197 : GoodIn wsX6_put (wsX3_append) := ggX6_put_X3_append
theorem dX6_put_0 : decode cX6_put 0 = .ok (.aload_n 0, 1) := by decide +kernel
theorem dX6_put_1 : decode cX6_put 1 = .ok (.getfield 35, 3) := by decide +kernel
theorem dX6_put_4 : decode cX6_put 4 = .ok (.lload_n 1, 1) := by decide +kernel
theorem dX6_put_5 : decode cX6_put 5 = .ok (.invokevirtual 197, 3) := by decide +kernel
theorem dX6_put_8 : decode cX6_put 8 = .ok (.ireturn, 1) := by decide +kernel
set_option maxRecDepth 20000 in
theorem ggX6_wipe_X3_empty : GoodIn wsX6_wipe wsX3_empty := goodIn_r _ [5, 6, 15, 16] (by decide +kernel) (by decide +kernel)
set_option maxRecDepth 20000 in
theorem gX6_wipe_X3_empty_n201 : GoodIn wsX6_wipe (wsX3_empty) := ggX6_wipe_X3_empty
theorem dX6_wipe_0 : decode cX6_wipe 0 = .ok (.aload_n 0, 1) := by decide +kernel
theorem dX6_wipe_1 : decode cX6_wipe 1 = .ok (.getfield 35, 3) := by decide +kernel
theorem dX6_wipe_4 : decode cX6_wipe 4 = .ok (.invokevirtual 201, 3) := by decide +kernel
theorem dX6_wipe_7 : decode cX6_wipe 7 = .ok (.ireturn, 1) := by decide +kernel
set_option maxRecDepth 20000 in
theorem ggX6_fault_X4_findFault : GoodIn wsX6_fault wsX4_findFault := goodIn_r _ [5, 6, 7, 8, 9, 10, 3, 11, 12, 13, 14, 15, 16, 17, 18, 19, 20, 21, 22, 23, 24, 25, 26, 27, 28, 29, 30, 31, 32, 33, 34, 35, 36, 37, 38, 39, 40, 41, 42, 43, 44, 45, 46, 47, 48, 49, 50, 51, 52, 61, 62, 63, 64, 65, 66, 67, 68, 69, 70, 71, 72] (by decide +kernel) (by decide +kernel)
set_option maxRecDepth 20000 in
theorem gX6_fault_X4_findFault_n204 : GoodIn wsX6_fault (wsX4_findFault) := ggX6_fault_X4_findFault
theorem dX6_fault_0 : decode cX6_fault 0 = .ok (.aload_n 0, 1) := by decide +kernel
theorem dX6_fault_1 : decode cX6_fault 1 = .ok (.getfield 44, 3) := by decide +kernel
theorem dX6_fault_4 : decode cX6_fault 4 = .ok (.invokevirtual 204, 3) := by decide +kernel
theorem dX6_fault_7 : decode cX6_fault 7 = .ok (.ireturn, 1) := by decide +kernel
set_option maxRecDepth 20000 in
theorem ggX6_carryOut_X1_keepAside : GoodIn wsX6_carryOut wsX1_keepAside := goodIn_r _ [8, 9, 10, 11, 12, 13, 14, 15, 16, 17, 18, 19, 20, 21, 22, 23, 24, 25, 26, 229, 230, 231, 232, 233] (by decide +kernel) (by decide +kernel)
set_option maxRecDepth 20000 in
theorem gX6_carryOut_X1_keepAside_n64 : GoodIn wsX6_carryOut (wsX1_keepAside) := ggX6_carryOut_X1_keepAside
set_option maxRecDepth 20000 in
theorem ggX6_carryOut_X4_findFault : GoodIn wsX6_carryOut wsX4_findFault := goodIn_r _ [30, 31, 32, 33, 34, 35, 28, 36, 37, 38, 39, 40, 41, 42, 43, 44, 45, 46, 47, 48, 49, 50, 51, 52, 53, 54, 55, 56, 57, 58, 59, 60, 61, 62, 63, 64, 65, 66, 67, 68, 69, 70, 71, 72, 73, 74, 75, 76, 77, 234, 235, 236, 237, 238, 239, 240, 241, 242, 243, 244, 245] (by decide +kernel) (by decide +kernel)
set_option maxRecDepth 20000 in
theorem gX6_carryOut_X4_findFault_n204 : GoodIn wsX6_carryOut (wsX4_findFault) := ggX6_carryOut_X4_findFault
set_option maxRecDepth 20000 in
theorem ggX6_carryOut_X4_toTheBegin : GoodIn wsX6_carryOut wsX4_toTheBegin := goodIn_r _ [36, 31, 234, 235, 236, 237, 238, 239, 240, 241, 242, 243] (by decide +kernel) (by decide +kernel)
set_option maxRecDepth 20000 in
theorem gX6_carryOut_X4_toTheBegin_n207 : GoodIn wsX6_carryOut (wsX4_toTheBegin) := ggX6_carryOut_X4_toTheBegin
set_option maxRecDepth 20000 in
theorem ggX6_carryOut_X4_readOrder : GoodIn wsX6_carryOut wsX4_readOrder := goodIn_r _ [40, 32, 31, 41, 42, 43, 44, 45, 46, 47, 48, 49, 50, 28, 51, 52, 53, 54, 55, 56, 57, 58, 59, 60, 61, 62, 63, 64, 65, 66, 67, 68, 69, 70, 71, 72, 73, 74, 75, 76, 77, 234, 235, 236, 237, 238, 239, 240, 241, 242, 243, 244, 245] (by decide +kernel) (by decide +kernel)
set_option maxRecDepth 20000 in
theorem gX6_carryOut_X4_readOrder_n210 : GoodIn wsX6_carryOut (wsX4_readOrder) := ggX6_carryOut_X4_readOrder
set_option maxRecDepth 20000 in
theorem ggX6_carryOut_X6_obeyOrder : GoodIn wsX6_carryOut wsX6_obeyOrder := goodIn_r _ [81, 3, 2, 82, 83, 84, 17, 85, 86, 87, 88, 89, 90, 91, 92, 93, 94, 95, 96, 12, 97, 98, 15, 99, 100, 101, 102, 103, 104, 105, 106, 107, 108, 109, 110, 111, 112, 113, 114, 115, 116, 117, 118, 119, 120, 121, 122, 123, 124, 125, 126, 127, 128, 21, 129, 130, 131, 132, 133, 134, 135, 136, 137, 20, 22, 138, 139, 140, 141, 142, 143, 144, 145, 146, 147, 148, 149, 150, 151, 152, 153, 154, 155, 156, 157, 158, 159, 160, 161, 162, 163, 164, 165, 166, 167, 168, 169, 170, 171, 172, 173, 174, 175, 176, 177, 178, 179, 180, 181, 182, 183, 184, 185, 186, 187, 188, 189, 190, 191, 192, 193, 194, 195, 196, 197, 198, 199, 200, 201, 202, 203, 204, 205, 206, 207, 208, 209, 210, 211, 212, 221, 222, 223, 224, 225, 226, 227, 228, 234, 235, 236, 237, 238, 239, 240, 241, 242, 243, 246, 247, 248, 249, 250, 251, 252, 253, 254, 232, 233] (by decide +kernel) (by decide +kernel)
set_option maxRecDepth 20000 in
theorem gX6_carryOut_X6_obeyOrder : GoodIn wsX6_carryOut (wsV RX6 214 RX6 yX6_obeyOrder wsX6_obeyOrder) := goodIn_app (goodIn_of _ (by decide +kernel)) ggX6_carryOut_X6_obeyOrder
set_option maxRecDepth 20000 in
theorem ggX6_carryOut_X4_readSign : GoodIn wsX6_carryOut wsX4_readSign := goodIn_r _ [51, 32, 31, 42, 43, 44, 45, 46, 47, 234, 235, 236, 237, 238, 239, 240, 241, 242, 243, 244, 245] (by decide +kernel) (by decide +kernel)
set_option maxRecDepth 20000 in
theorem gX6_carryOut_X4_readSign_n217 : GoodIn wsX6_carryOut (wsX4_readSign) := ggX6_carryOut_X4_readSign
set_option maxRecDepth 20000 in
theorem ggX6_carryOut_X3_empty : GoodIn wsX6_carryOut wsX3_empty := goodIn_r _ [215, 46, 244, 245] (by decide +kernel) (by decide +kernel)
set_option maxRecDepth 20000 in
theorem gX6_carryOut_X3_empty_n201 : GoodIn wsX6_carryOut (wsX3_empty) := ggX6_carryOut_X3_empty
set_option maxRecDepth 20000 in
theorem ggX6_carryOut_X1_recordUnlessError : GoodIn wsX6_carryOut wsX1_recordUnlessError := goodIn_r _ [218, 9, 219, 220, 20, 21, 22, 229, 230, 231] (by decide +kernel) (by decide +kernel)
set_option maxRecDepth 20000 in
theorem gX6_carryOut_X1_recordUnlessError_n71 : GoodIn wsX6_carryOut (wsX1_recordUnlessError) := ggX6_carryOut_X1_recordUnlessError
theorem dX6_carryOut_0 : decode cX6_carryOut 0 = .ok (.aload_n 0, 1) := by decide +kernel
theorem dX6_carryOut_1 : decode cX6_carryOut 1 = .ok (.getfield 51, 3) := by decide +kernel
theorem dX6_carryOut_4 : decode cX6_carryOut 4 = .ok (.aload_n 0, 1) := by decide +kernel
theorem dX6_carryOut_5 : decode cX6_carryOut 5 = .ok (.getfield 10, 3) := by decide +kernel
theorem dX6_carryOut_8 : decode cX6_carryOut 8 = .ok (.invokevirtual 64, 3) := by decide +kernel
theorem dX6_carryOut_11 : decode cX6_carryOut 11 = .ok (.aload_n 0, 1) := by decide +kernel
theorem dX6_carryOut_12 : decode cX6_carryOut 12 = .ok (.getfield 44, 3) := by decide +kernel
theorem dX6_carryOut_15 : decode cX6_carryOut 15 = .ok (.invokevirtual 204, 3) := by decide +kernel
theorem dX6_carryOut_18 : decode cX6_carryOut 18 = .ok (.bipush (-6), 2) := by decide +kernel
theorem dX6_carryOut_20 : decode cX6_carryOut 20 = .ok (.if_icmp .eq 6, 3) := by decide +kernel
theorem dX6_carryOut_23 : decode cX6_carryOut 23 = .ok (.bipush (-3), 2) := by decide +kernel
theorem dX6_carryOut_25 : decode cX6_carryOut 25 = .ok (.ireturn, 1) := by decide +kernel
theorem dX6_carryOut_26 : decode cX6_carryOut 26 = .ok (.iconst 0, 1) := by decide +kernel
theorem dX6_carryOut_27 : decode cX6_carryOut 27 = .ok (.istore_n 1, 1) := by decide +kernel
theorem dX6_carryOut_28 : decode cX6_carryOut 28 = .ok (.aload_n 0, 1) := by decide +kernel
theorem dX6_carryOut_29 : decode cX6_carryOut 29 = .ok (.getfield 44, 3) := by decide +kernel
theorem dX6_carryOut_32 : decode cX6_carryOut 32 = .ok (.invokevirtual 207, 3) := by decide +kernel
theorem dX6_carryOut_35 : decode cX6_carryOut 35 = .ok (.iload_n 1, 1) := by decide +kernel
theorem dX6_carryOut_36 : decode cX6_carryOut 36 = .ok (.bipush 80, 2) := by decide +kernel
theorem dX6_carryOut_38 : decode cX6_carryOut 38 = .ok (.if_icmp .ge 36, 3) := by decide +kernel
theorem dX6_carryOut_41 : decode cX6_carryOut 41 = .ok (.aload_n 0, 1) := by decide +kernel
theorem dX6_carryOut_42 : decode cX6_carryOut 42 = .ok (.getfield 44, 3) := by decide +kernel
theorem dX6_carryOut_45 : decode cX6_carryOut 45 = .ok (.invokevirtual 210, 3) := by decide +kernel
theorem dX6_carryOut_48 : decode cX6_carryOut 48 = .ok (.ifCond .eq 26, 3) := by decide +kernel
theorem dX6_carryOut_51 : decode cX6_carryOut 51 = .ok (.aload_n 0, 1) := by decide +kernel
theorem dX6_carryOut_52 : decode cX6_carryOut 52 = .ok (.invokevirtual 214, 3) := by decide +kernel
theorem dX6_carryOut_55 : decode cX6_carryOut 55 = .ok (.ifCond .lt 19, 3) := by decide +kernel
theorem dX6_carryOut_58 : decode cX6_carryOut 58 = .ok (.iinc 1 1, 3) := by decide +kernel
theorem dX6_carryOut_61 : decode cX6_carryOut 61 = .ok (.aload_n 0, 1) := by decide +kernel
theorem dX6_carryOut_62 : decode cX6_carryOut 62 = .ok (.getfield 44, 3) := by decide +kernel
theorem dX6_carryOut_65 : decode cX6_carryOut 65 = .ok (.bipush 59, 2) := by decide +kernel
theorem dX6_carryOut_67 : decode cX6_carryOut 67 = .ok (.invokevirtual 217, 3) := by decide +kernel
theorem dX6_carryOut_70 : decode cX6_carryOut 70 = .ok (.pop, 1) := by decide +kernel
theorem dX6_carryOut_71 : decode cX6_carryOut 71 = .ok (.goto (-36), 3) := by decide +kernel
theorem dX6_carryOut_74 : decode cX6_carryOut 74 = .ok (.aload_n 0, 1) := by decide +kernel
theorem dX6_carryOut_75 : decode cX6_carryOut 75 = .ok (.getfield 35, 3) := by decide +kernel
theorem dX6_carryOut_78 : decode cX6_carryOut 78 = .ok (.invokevirtual 201, 3) := by decide +kernel
theorem dX6_carryOut_81 : decode cX6_carryOut 81 = .ok (.pop, 1) := by decide +kernel
theorem dX6_carryOut_82 : decode cX6_carryOut 82 = .ok (.aload_n 0, 1) := by decide +kernel
theorem dX6_carryOut_83 : decode cX6_carryOut 83 = .ok (.getfield 51, 3) := by decide +kernel
theorem dX6_carryOut_86 : decode cX6_carryOut 86 = .ok (.iload_n 1, 1) := by decide +kernel
theorem dX6_carryOut_87 : decode cX6_carryOut 87 = .ok (.invokevirtual 71, 3) := by decide +kernel
theorem dX6_carryOut_90 : decode cX6_carryOut 90 = .ok (.ireturn, 1) := by decide +kernel
set_option maxRecDepth 20000 in
theorem ggX6_undo_X1_takeBack : GoodIn wsX6_undo wsX1_takeBack := goodIn_r _ [6, 7, 8, 9, 10, 11, 12, 13, 14, 15, 16, 17, 18, 19, 20, 21, 22, 23, 24, 25, 26, 35, 36, 37, 38, 39] (by decide +kernel) (by decide +kernel)
set_option maxRecDepth 20000 in
theorem gX6_undo_X1_takeBack_n221 : GoodIn wsX6_undo (wsX1_takeBack) := ggX6_undo_X1_takeBack
theorem dX6_undo_0 : decode cX6_undo 0 = .ok (.aload_n 0, 1) := by decide +kernel
theorem dX6_undo_1 : decode cX6_undo 1 = .ok (.getfield 51, 3) := by decide +kernel
theorem dX6_undo_4 : decode cX6_undo 4 = .ok (.aload_n 0, 1) := by decide +kernel
theorem dX6_undo_5 : decode cX6_undo 5 = .ok (.getfield 10, 3) := by decide +kernel
theorem dX6_undo_8 : decode cX6_undo 8 = .ok (.invokevirtual 221, 3) := by decide +kernel
theorem dX6_undo_11 : decode cX6_undo 11 = .ok (.ireturn, 1) := by decide +kernel
set_option maxRecDepth 20000 in
theorem ggX6_save_X2_copyTo : GoodIn wsX6_save wsX2_copyTo := goodIn_r _ [8, 9, 10, 11, 12, 13, 14, 15, 16, 17, 18, 19, 20, 110, 111] (by decide +kernel) (by decide +kernel)
set_option maxRecDepth 20000 in
theorem gX6_save_X2_copyTo_n225 : GoodIn wsX6_save (wsX2_copyTo) := ggX6_save_X2_copyTo
set_option maxRecDepth 20000 in
theorem ggX6_save_X0_follow : GoodIn wsX6_save wsX0_follow := goodIn_r _ [24, 25, 26, 27, 28, 29, 6, 30, 31, 9, 32, 33, 34, 22, 35, 36, 37, 38, 39, 40, 41, 11, 42, 43, 44, 45, 46, 47, 48, 49, 15, 50, 51, 52, 53, 54, 55, 56, 57, 58, 59, 60, 61, 62, 63, 64, 65, 66, 67, 68, 14, 16, 69, 70, 71, 72, 73, 74, 75, 76, 77, 78, 79, 80, 81, 82, 83, 84, 85, 86, 87, 88, 89, 90, 91, 92, 93, 112, 113, 114, 115, 116, 117, 118, 119, 120, 110, 111] (by decide +kernel) (by decide +kernel)
set_option maxRecDepth 20000 in
theorem gX6_save_X0_follow_n99 : GoodIn wsX6_save (wsX0_follow) := ggX6_save_X0_follow
set_option maxRecDepth 20000 in
theorem ggX6_save_X6_moneyOfDay : GoodIn wsX6_save wsX6_moneyOfDay := goodIn_r _ [97, 4, 98, 99, 100, 11, 101, 102, 103, 104, 105, 106, 107, 108, 109, 112, 113, 114, 115, 116, 117, 118, 119, 120] (by decide +kernel) (by decide +kernel)
set_option maxRecDepth 20000 in
theorem gX6_save_X6_moneyOfDay : GoodIn wsX6_save (wsV RX6 146 RX6 yX6_moneyOfDay wsX6_moneyOfDay) := goodIn_app (goodIn_of _ (by decide +kernel)) ggX6_save_X6_moneyOfDay
theorem dX6_save_0 : decode cX6_save 0 = .ok (.iload_n 1, 1) := by decide +kernel
theorem dX6_save_1 : decode cX6_save 1 = .ok (.ifCond .lt 8, 3) := by decide +kernel
theorem dX6_save_4 : decode cX6_save 4 = .ok (.iload_n 1, 1) := by decide +kernel
theorem dX6_save_5 : decode cX6_save 5 = .ok (.iconst 2, 1) := by decide +kernel
theorem dX6_save_6 : decode cX6_save 6 = .ok (.if_icmp .lt 6, 3) := by decide +kernel
theorem dX6_save_9 : decode cX6_save 9 = .ok (.bipush (-2), 2) := by decide +kernel
theorem dX6_save_11 : decode cX6_save 11 = .ok (.ireturn, 1) := by decide +kernel
theorem dX6_save_12 : decode cX6_save 12 = .ok (.aload_n 0, 1) := by decide +kernel
theorem dX6_save_13 : decode cX6_save 13 = .ok (.getfield 10, 3) := by decide +kernel
theorem dX6_save_16 : decode cX6_save 16 = .ok (.aload_n 0, 1) := by decide +kernel
theorem dX6_save_17 : decode cX6_save 17 = .ok (.getfield 57, 3) := by decide +kernel
theorem dX6_save_20 : decode cX6_save 20 = .ok (.iload_n 1, 1) := by decide +kernel
theorem dX6_save_21 : decode cX6_save 21 = .ok (.aaload, 1) := by decide +kernel
theorem dX6_save_22 : decode cX6_save 22 = .ok (.invokevirtual 225, 3) := by decide +kernel
theorem dX6_save_25 : decode cX6_save 25 = .ok (.aload_n 0, 1) := by decide +kernel
theorem dX6_save_26 : decode cX6_save 26 = .ok (.getfield 60, 3) := by decide +kernel
theorem dX6_save_29 : decode cX6_save 29 = .ok (.iload_n 1, 1) := by decide +kernel
theorem dX6_save_30 : decode cX6_save 30 = .ok (.iconst 1, 1) := by decide +kernel
theorem dX6_save_31 : decode cX6_save 31 = .ok (.bastore, 1) := by decide +kernel
theorem dX6_save_32 : decode cX6_save 32 = .ok (.aload_n 0, 1) := by decide +kernel
theorem dX6_save_33 : decode cX6_save 33 = .ok (.getfield 21, 3) := by decide +kernel
theorem dX6_save_36 : decode cX6_save 36 = .ok (.invokevirtual 99, 3) := by decide +kernel
theorem dX6_save_39 : decode cX6_save 39 = .ok (.aload_n 0, 1) := by decide +kernel
theorem dX6_save_40 : decode cX6_save 40 = .ok (.invokevirtual 146, 3) := by decide +kernel
theorem dX6_save_43 : decode cX6_save 43 = .ok (.ireturn, 1) := by decide +kernel
set_option maxRecDepth 20000 in
theorem ggX6_restore_X1_keepAside : GoodIn wsX6_restore wsX1_keepAside := goodIn_r _ [9, 10, 11, 12, 13, 14, 15, 16, 17, 18, 19, 20, 21, 22, 23, 24, 25, 26, 27, 126, 127, 128, 129, 130] (by decide +kernel) (by decide +kernel)
set_option maxRecDepth 20000 in
theorem gX6_restore_X1_keepAside_n64 : GoodIn wsX6_restore (wsX1_keepAside) := ggX6_restore_X1_keepAside
set_option maxRecDepth 20000 in
theorem ggX6_restore_X2_copyFrom : GoodIn wsX6_restore wsX2_copyFrom := goodIn_r _ [30, 16, 31, 17, 18, 19, 20, 21, 22, 23, 24, 25, 26, 27, 129, 130] (by decide +kernel) (by decide +kernel)
set_option maxRecDepth 20000 in
theorem gX6_restore_X2_copyFrom_n229 : GoodIn wsX6_restore (wsX2_copyFrom) := ggX6_restore_X2_copyFrom
set_option maxRecDepth 20000 in
theorem ggX6_restore_X0_follow : GoodIn wsX6_restore wsX0_follow := goodIn_r _ [35, 36, 37, 38, 39, 40, 13, 41, 42, 16, 43, 44, 45, 33, 46, 47, 48, 49, 50, 51, 52, 18, 53, 54, 55, 56, 57, 58, 59, 60, 22, 61, 62, 63, 64, 65, 66, 67, 68, 69, 70, 71, 72, 73, 74, 75, 76, 77, 78, 79, 21, 23, 80, 81, 82, 83, 84, 85, 86, 87, 88, 89, 90, 91, 92, 93, 94, 95, 96, 97, 98, 99, 100, 101, 102, 103, 104, 131, 132, 133, 134, 135, 136, 137, 138, 139, 129, 130] (by decide +kernel) (by decide +kernel)
set_option maxRecDepth 20000 in
theorem gX6_restore_X0_follow_n99 : GoodIn wsX6_restore (wsX0_follow) := ggX6_restore_X0_follow
set_option maxRecDepth 20000 in
theorem ggX6_restore_X6_moneyOfDay : GoodIn wsX6_restore wsX6_moneyOfDay := goodIn_r _ [108, 5, 109, 110, 111, 18, 112, 118, 119, 120, 121, 122, 123, 124, 125, 131, 132, 133, 134, 135, 136, 137, 138, 139] (by decide +kernel) (by decide +kernel)
set_option maxRecDepth 20000 in
theorem gX6_restore_X6_moneyOfDay : GoodIn wsX6_restore (wsV RX6 146 RX6 yX6_moneyOfDay wsX6_moneyOfDay) := goodIn_app (goodIn_of _ (by decide +kernel)) ggX6_restore_X6_moneyOfDay
set_option maxRecDepth 20000 in
theorem ggX6_restore_X1_recordUnlessError : GoodIn wsX6_restore wsX1_recordUnlessError := goodIn_r _ [115, 10, 116, 117, 21, 22, 23, 126, 127, 128] (by decide +kernel) (by decide +kernel)
set_option maxRecDepth 20000 in
theorem gX6_restore_X1_recordUnlessError_n71 : GoodIn wsX6_restore (wsX1_recordUnlessError) := ggX6_restore_X1_recordUnlessError
theorem dX6_restore_0 : decode cX6_restore 0 = .ok (.iload_n 1, 1) := by decide +kernel
theorem dX6_restore_1 : decode cX6_restore 1 = .ok (.ifCond .lt 8, 3) := by decide +kernel
theorem dX6_restore_4 : decode cX6_restore 4 = .ok (.iload_n 1, 1) := by decide +kernel
theorem dX6_restore_5 : decode cX6_restore 5 = .ok (.iconst 2, 1) := by decide +kernel
theorem dX6_restore_6 : decode cX6_restore 6 = .ok (.if_icmp .lt 6, 3) := by decide +kernel
theorem dX6_restore_9 : decode cX6_restore 9 = .ok (.bipush (-2), 2) := by decide +kernel
theorem dX6_restore_11 : decode cX6_restore 11 = .ok (.ireturn, 1) := by decide +kernel
theorem dX6_restore_12 : decode cX6_restore 12 = .ok (.aload_n 0, 1) := by decide +kernel
theorem dX6_restore_13 : decode cX6_restore 13 = .ok (.getfield 60, 3) := by decide +kernel
theorem dX6_restore_16 : decode cX6_restore 16 = .ok (.iload_n 1, 1) := by decide +kernel
theorem dX6_restore_17 : decode cX6_restore 17 = .ok (.baload, 1) := by decide +kernel
theorem dX6_restore_18 : decode cX6_restore 18 = .ok (.ifCond .ne 6, 3) := by decide +kernel
theorem dX6_restore_21 : decode cX6_restore 21 = .ok (.bipush (-5), 2) := by decide +kernel
theorem dX6_restore_23 : decode cX6_restore 23 = .ok (.ireturn, 1) := by decide +kernel
theorem dX6_restore_24 : decode cX6_restore 24 = .ok (.aload_n 0, 1) := by decide +kernel
theorem dX6_restore_25 : decode cX6_restore 25 = .ok (.getfield 51, 3) := by decide +kernel
theorem dX6_restore_28 : decode cX6_restore 28 = .ok (.aload_n 0, 1) := by decide +kernel
theorem dX6_restore_29 : decode cX6_restore 29 = .ok (.getfield 10, 3) := by decide +kernel
theorem dX6_restore_32 : decode cX6_restore 32 = .ok (.invokevirtual 64, 3) := by decide +kernel
theorem dX6_restore_35 : decode cX6_restore 35 = .ok (.aload_n 0, 1) := by decide +kernel
theorem dX6_restore_36 : decode cX6_restore 36 = .ok (.getfield 10, 3) := by decide +kernel
theorem dX6_restore_39 : decode cX6_restore 39 = .ok (.aload_n 0, 1) := by decide +kernel
theorem dX6_restore_40 : decode cX6_restore 40 = .ok (.getfield 57, 3) := by decide +kernel
theorem dX6_restore_43 : decode cX6_restore 43 = .ok (.iload_n 1, 1) := by decide +kernel
theorem dX6_restore_44 : decode cX6_restore 44 = .ok (.aaload, 1) := by decide +kernel
theorem dX6_restore_45 : decode cX6_restore 45 = .ok (.invokevirtual 229, 3) := by decide +kernel
theorem dX6_restore_48 : decode cX6_restore 48 = .ok (.aload_n 0, 1) := by decide +kernel
theorem dX6_restore_49 : decode cX6_restore 49 = .ok (.getfield 21, 3) := by decide +kernel
theorem dX6_restore_52 : decode cX6_restore 52 = .ok (.invokevirtual 99, 3) := by decide +kernel
theorem dX6_restore_55 : decode cX6_restore 55 = .ok (.aload_n 0, 1) := by decide +kernel
theorem dX6_restore_56 : decode cX6_restore 56 = .ok (.getfield 51, 3) := by decide +kernel
theorem dX6_restore_59 : decode cX6_restore 59 = .ok (.aload_n 0, 1) := by decide +kernel
theorem dX6_restore_60 : decode cX6_restore 60 = .ok (.invokevirtual 146, 3) := by decide +kernel
theorem dX6_restore_63 : decode cX6_restore 63 = .ok (.invokevirtual 71, 3) := by decide +kernel
theorem dX6_restore_66 : decode cX6_restore 66 = .ok (.ireturn, 1) := by decide +kernel
set_option maxRecDepth 20000 in
theorem ggX6_adoptBest_X5_solve : GoodIn wsX6_adoptBest wsX5_solve := goodIn_r _ [6, 7, 8, 9, 10, 11, 12, 13, 14, 15, 16, 17, 18, 19, 20, 21, 22, 4, 23, 24, 25, 26, 27, 28, 29, 30, 31, 32, 33, 34, 35, 36, 37, 38, 39, 40, 41, 42, 43, 44, 45, 46, 47, 48, 49, 50, 51, 52, 53, 54, 55, 56, 57, 58, 59, 60, 61, 62, 63, 64, 65, 66, 67, 68, 69, 70, 71, 72, 73, 74, 75, 76, 77, 78, 79, 80, 81, 82, 83, 84, 85, 86, 87, 88, 89, 90, 91, 92, 93, 94, 95, 96, 97, 98, 99, 100, 101, 102, 103, 104, 105, 106, 107, 108, 109, 110, 129, 130, 131, 132, 133, 134, 135, 136, 137, 138, 139] (by decide +kernel) (by decide +kernel)
set_option maxRecDepth 20000 in
theorem gX6_adoptBest_X5_solve_n179 : GoodIn wsX6_adoptBest (wsX5_solve) := ggX6_adoptBest_X5_solve
set_option maxRecDepth 20000 in
theorem ggX6_adoptBest_X2_planOf : GoodIn wsX6_adoptBest wsX2_planOf := goodIn_r _ [113, 16, 138, 139] (by decide +kernel) (by decide +kernel)
set_option maxRecDepth 20000 in
theorem gX6_adoptBest_X2_planOf_n108 : GoodIn wsX6_adoptBest (wsX2_planOf) := ggX6_adoptBest_X2_planOf
set_option maxRecDepth 20000 in
theorem ggX6_adoptBest_X2_changePlan : GoodIn wsX6_adoptBest wsX2_changePlan := goodIn_r _ [116, 16, 69, 70, 71, 117, 118, 119, 13, 120, 138, 139] (by decide +kernel) (by decide +kernel)
set_option maxRecDepth 20000 in
theorem gX6_adoptBest_X2_changePlan_n81 : GoodIn wsX6_adoptBest (wsX2_changePlan) := ggX6_adoptBest_X2_changePlan
theorem dX6_adoptBest_0 : decode cX6_adoptBest 0 = .ok (.aload_n 0, 1) := by decide +kernel
theorem dX6_adoptBest_1 : decode cX6_adoptBest 1 = .ok (.getfield 28, 3) := by decide +kernel
theorem dX6_adoptBest_4 : decode cX6_adoptBest 4 = .ok (.invokevirtual 179, 3) := by decide +kernel
theorem dX6_adoptBest_7 : decode cX6_adoptBest 7 = .ok (.aload_n 0, 1) := by decide +kernel
theorem dX6_adoptBest_8 : decode cX6_adoptBest 8 = .ok (.getfield 28, 3) := by decide +kernel
theorem dX6_adoptBest_11 : decode cX6_adoptBest 11 = .ok (.getfield 187, 3) := by decide +kernel
theorem dX6_adoptBest_14 : decode cX6_adoptBest 14 = .ok (.ifCond .ne 6, 3) := by decide +kernel
theorem dX6_adoptBest_17 : decode cX6_adoptBest 17 = .ok (.bipush (-5), 2) := by decide +kernel
theorem dX6_adoptBest_19 : decode cX6_adoptBest 19 = .ok (.ireturn, 1) := by decide +kernel
theorem dX6_adoptBest_20 : decode cX6_adoptBest 20 = .ok (.iconst 0, 1) := by decide +kernel
theorem dX6_adoptBest_21 : decode cX6_adoptBest 21 = .ok (.istore_n 1, 1) := by decide +kernel
theorem dX6_adoptBest_22 : decode cX6_adoptBest 22 = .ok (.iconst 0, 1) := by decide +kernel
theorem dX6_adoptBest_23 : decode cX6_adoptBest 23 = .ok (.istore_n 2, 1) := by decide +kernel
theorem dX6_adoptBest_24 : decode cX6_adoptBest 24 = .ok (.iload_n 2, 1) := by decide +kernel
theorem dX6_adoptBest_25 : decode cX6_adoptBest 25 = .ok (.bipush 24, 2) := by decide +kernel
theorem dX6_adoptBest_27 : decode cX6_adoptBest 27 = .ok (.if_icmp .ge 50, 3) := by decide +kernel
theorem dX6_adoptBest_30 : decode cX6_adoptBest 30 = .ok (.aload_n 0, 1) := by decide +kernel
theorem dX6_adoptBest_31 : decode cX6_adoptBest 31 = .ok (.getfield 10, 3) := by decide +kernel
theorem dX6_adoptBest_34 : decode cX6_adoptBest 34 = .ok (.iload_n 2, 1) := by decide +kernel
theorem dX6_adoptBest_35 : decode cX6_adoptBest 35 = .ok (.invokevirtual 108, 3) := by decide +kernel
theorem dX6_adoptBest_38 : decode cX6_adoptBest 38 = .ok (.aload_n 0, 1) := by decide +kernel
theorem dX6_adoptBest_39 : decode cX6_adoptBest 39 = .ok (.getfield 28, 3) := by decide +kernel
theorem dX6_adoptBest_42 : decode cX6_adoptBest 42 = .ok (.getfield 191, 3) := by decide +kernel
theorem dX6_adoptBest_45 : decode cX6_adoptBest 45 = .ok (.iload_n 2, 1) := by decide +kernel
theorem dX6_adoptBest_46 : decode cX6_adoptBest 46 = .ok (.iaload, 1) := by decide +kernel
theorem dX6_adoptBest_47 : decode cX6_adoptBest 47 = .ok (.if_icmp .eq 24, 3) := by decide +kernel
theorem dX6_adoptBest_50 : decode cX6_adoptBest 50 = .ok (.iinc 1 1, 3) := by decide +kernel
theorem dX6_adoptBest_53 : decode cX6_adoptBest 53 = .ok (.aload_n 0, 1) := by decide +kernel
theorem dX6_adoptBest_54 : decode cX6_adoptBest 54 = .ok (.getfield 10, 3) := by decide +kernel
theorem dX6_adoptBest_57 : decode cX6_adoptBest 57 = .ok (.iload_n 2, 1) := by decide +kernel
theorem dX6_adoptBest_58 : decode cX6_adoptBest 58 = .ok (.aload_n 0, 1) := by decide +kernel
theorem dX6_adoptBest_59 : decode cX6_adoptBest 59 = .ok (.getfield 28, 3) := by decide +kernel
theorem dX6_adoptBest_62 : decode cX6_adoptBest 62 = .ok (.getfield 191, 3) := by decide +kernel
theorem dX6_adoptBest_65 : decode cX6_adoptBest 65 = .ok (.iload_n 2, 1) := by decide +kernel
theorem dX6_adoptBest_66 : decode cX6_adoptBest 66 = .ok (.iaload, 1) := by decide +kernel
theorem dX6_adoptBest_67 : decode cX6_adoptBest 67 = .ok (.invokevirtual 81, 3) := by decide +kernel
theorem dX6_adoptBest_70 : decode cX6_adoptBest 70 = .ok (.pop, 1) := by decide +kernel
theorem dX6_adoptBest_71 : decode cX6_adoptBest 71 = .ok (.iinc 2 1, 3) := by decide +kernel
theorem dX6_adoptBest_74 : decode cX6_adoptBest 74 = .ok (.goto (-50), 3) := by decide +kernel
theorem dX6_adoptBest_77 : decode cX6_adoptBest 77 = .ok (.iload_n 1, 1) := by decide +kernel
theorem dX6_adoptBest_78 : decode cX6_adoptBest 78 = .ok (.ireturn, 1) := by decide +kernel
set_option maxRecDepth 20000 in
theorem ggX6_obeyOrder_X6_adoptBest : GoodIn wsX6_obeyOrder wsX6_adoptBest := goodIn_r _ [7, 8, 2, 9, 10, 11, 12, 13, 14, 15, 16, 17, 18, 19, 20, 21, 22, 23, 24, 25, 26, 27, 28, 29, 30, 31, 32, 33, 34, 35, 36, 37, 38, 39, 40, 41, 42, 43, 44, 45, 46, 47, 48, 49, 50, 51, 52, 53, 54, 55, 56, 57, 58, 59, 60, 61, 62, 63, 64, 65, 66, 67, 68, 69, 70, 71, 72, 73, 74, 75, 6, 76, 77, 78, 79, 80, 81, 82, 83, 84, 85, 86, 87, 88, 89, 90, 91, 92, 93, 94, 95, 96, 97, 98, 99, 100, 101, 102, 103, 104, 105, 106, 107, 108, 109, 110, 111, 112, 113, 114, 115, 116, 117, 118, 119, 120, 121, 122, 123, 124, 125, 140, 141, 142, 143, 144, 145, 146, 147, 158, 159, 160, 161, 162, 163, 164, 165, 166, 167, 168] (by decide +kernel) (by decide +kernel)
set_option maxRecDepth 20000 in
theorem gX6_obeyOrder_X6_adoptBest : GoodIn wsX6_obeyOrder (wsV RX6 91 RX6 yX6_adoptBest wsX6_adoptBest) := goodIn_app (goodIn_of _ (by decide +kernel)) ggX6_obeyOrder_X6_adoptBest
set_option maxRecDepth 20000 in
theorem ggX6_obeyOrder_X2_addContract : GoodIn wsX6_obeyOrder wsX2_addContract := goodIn_r _ [128, 22, 129, 75, 6, 76, 40, 41, 42, 19, 43, 122, 123, 124, 125, 167, 168] (by decide +kernel) (by decide +kernel)
set_option maxRecDepth 20000 in
theorem gX6_obeyOrder_X2_addContract_n84 : GoodIn wsX6_obeyOrder (wsX2_addContract) := ggX6_obeyOrder_X2_addContract
set_option maxRecDepth 20000 in
theorem ggX6_obeyOrder_X6_obeyInHour : GoodIn wsX6_obeyOrder wsX6_obeyInHour := goodIn_r _ [133, 1, 2, 134, 19, 135, 136, 129, 75, 6, 76, 122, 123, 124, 125, 22, 137, 138, 139, 119, 120, 121, 140, 141, 142, 143, 144, 145, 146, 147, 148, 149, 150, 151, 152, 153, 154, 155, 156, 157, 167, 168] (by decide +kernel) (by decide +kernel)
set_option maxRecDepth 20000 in
theorem gX6_obeyOrder_X6_obeyInHour : GoodIn wsX6_obeyOrder (wsV RX6 251 RX6 yX6_obeyInHour wsX6_obeyInHour) := goodIn_app (goodIn_of _ (by decide +kernel)) ggX6_obeyOrder_X6_obeyInHour
theorem dX6_obeyOrder_0 : decode cX6_obeyOrder 0 = .ok (.aload_n 0, 1) := by decide +kernel
