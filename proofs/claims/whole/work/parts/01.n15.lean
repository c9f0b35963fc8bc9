theorem dX7_isOrder_1 : decode cX7_isOrder 1 = .ok (.getfield 165, 3) := by decide +kernel
theorem dX7_isOrder_4 : decode cX7_isOrder 4 = .ok (.aload_n 0, 1) := by decide +kernel
theorem dX7_isOrder_5 : decode cX7_isOrder 5 = .ok (.getfield 152, 3) := by decide +kernel
theorem dX7_isOrder_8 : decode cX7_isOrder 8 = .ok (.if_icmp .ge 15, 3) := by decide +kernel
theorem dX7_isOrder_11 : decode cX7_isOrder 11 = .ok (.aload_n 0, 1) := by decide +kernel
theorem dX7_isOrder_12 : decode cX7_isOrder 12 = .ok (.getfield 23, 3) := by decide +kernel
theorem dX7_isOrder_15 : decode cX7_isOrder 15 = .ok (.aload_n 0, 1) := by decide +kernel
theorem dX7_isOrder_16 : decode cX7_isOrder 16 = .ok (.getfield 165, 3) := by decide +kernel
theorem dX7_isOrder_19 : decode cX7_isOrder 19 = .ok (.iaload, 1) := by decide +kernel
theorem dX7_isOrder_20 : decode cX7_isOrder 20 = .ok (.goto 4, 3) := by decide +kernel
theorem dX7_isOrder_23 : decode cX7_isOrder 23 = .ok (.iconst 0, 1) := by decide +kernel
theorem dX7_isOrder_24 : decode cX7_isOrder 24 = .ok (.istore_n 1, 1) := by decide +kernel
theorem dX7_isOrder_25 : decode cX7_isOrder 25 = .ok (.aload_n 0, 1) := by decide +kernel
theorem dX7_isOrder_26 : decode cX7_isOrder 26 = .ok (.getfield 26, 3) := by decide +kernel
theorem dX7_isOrder_29 : decode cX7_isOrder 29 = .ok (.iconst 5, 1) := by decide +kernel
theorem dX7_isOrder_30 : decode cX7_isOrder 30 = .ok (.aload_n 0, 1) := by decide +kernel
theorem dX7_isOrder_31 : decode cX7_isOrder 31 = .ok (.getfield 171, 3) := by decide +kernel
theorem dX7_isOrder_34 : decode cX7_isOrder 34 = .ok (.imul, 1) := by decide +kernel
theorem dX7_isOrder_35 : decode cX7_isOrder 35 = .ok (.iload_n 1, 1) := by decide +kernel
theorem dX7_isOrder_36 : decode cX7_isOrder 36 = .ok (.iastore, 1) := by decide +kernel
theorem dX7_isOrder_37 : decode cX7_isOrder 37 = .ok (.iload_n 1, 1) := by decide +kernel
theorem dX7_isOrder_38 : decode cX7_isOrder 38 = .ok (.lookupswitch 103 #[(97, 50), (99, 88), (105, 62), (112, 62), (117, 62)], 50) := by decide +kernel
theorem dX7_isOrder_88 : decode cX7_isOrder 88 = .ok (.aload_n 0, 1) := by decide +kernel
theorem dX7_isOrder_89 : decode cX7_isOrder 89 = .ok (.dup, 1) := by decide +kernel
theorem dX7_isOrder_90 : decode cX7_isOrder 90 = .ok (.getfield 165, 3) := by decide +kernel
theorem dX7_isOrder_93 : decode cX7_isOrder 93 = .ok (.iconst 1, 1) := by decide +kernel
theorem dX7_isOrder_94 : decode cX7_isOrder 94 = .ok (.iadd, 1) := by decide +kernel
theorem dX7_isOrder_95 : decode cX7_isOrder 95 = .ok (.putfield 165, 3) := by decide +kernel
theorem dX7_isOrder_98 : decode cX7_isOrder 98 = .ok (.iconst 1, 1) := by decide +kernel
theorem dX7_isOrder_99 : decode cX7_isOrder 99 = .ok (.ireturn, 1) := by decide +kernel
theorem dX7_isOrder_100 : decode cX7_isOrder 100 = .ok (.aload_n 0, 1) := by decide +kernel
theorem dX7_isOrder_101 : decode cX7_isOrder 101 = .ok (.dup, 1) := by decide +kernel
theorem dX7_isOrder_102 : decode cX7_isOrder 102 = .ok (.getfield 165, 3) := by decide +kernel
theorem dX7_isOrder_105 : decode cX7_isOrder 105 = .ok (.iconst 1, 1) := by decide +kernel
theorem dX7_isOrder_106 : decode cX7_isOrder 106 = .ok (.iadd, 1) := by decide +kernel
theorem dX7_isOrder_107 : decode cX7_isOrder 107 = .ok (.putfield 165, 3) := by decide +kernel
theorem dX7_isOrder_110 : decode cX7_isOrder 110 = .ok (.aload_n 0, 1) := by decide +kernel
theorem dX7_isOrder_111 : decode cX7_isOrder 111 = .ok (.iload_n 1, 1) := by decide +kernel
theorem dX7_isOrder_112 : decode cX7_isOrder 112 = .ok (.bipush 117, 2) := by decide +kernel
theorem dX7_isOrder_114 : decode cX7_isOrder 114 = .ok (.if_icmp .ne 7, 3) := by decide +kernel
theorem dX7_isOrder_117 : decode cX7_isOrder 117 = .ok (.iconst 1, 1) := by decide +kernel
theorem dX7_isOrder_118 : decode cX7_isOrder 118 = .ok (.goto 4, 3) := by decide +kernel
theorem dX7_isOrder_121 : decode cX7_isOrder 121 = .ok (.iconst 0, 1) := by decide +kernel
theorem dX7_isOrder_122 : decode cX7_isOrder 122 = .ok (.invokevirtual 180, 3) := by decide +kernel
theorem dX7_isOrder_125 : decode cX7_isOrder 125 = .ok (.ireturn, 1) := by decide +kernel
theorem dX7_isOrder_126 : decode cX7_isOrder 126 = .ok (.aload_n 0, 1) := by decide +kernel
theorem dX7_isOrder_127 : decode cX7_isOrder 127 = .ok (.dup, 1) := by decide +kernel
theorem dX7_isOrder_128 : decode cX7_isOrder 128 = .ok (.getfield 165, 3) := by decide +kernel
theorem dX7_isOrder_131 : decode cX7_isOrder 131 = .ok (.iconst 1, 1) := by decide +kernel
theorem dX7_isOrder_132 : decode cX7_isOrder 132 = .ok (.iadd, 1) := by decide +kernel
theorem dX7_isOrder_133 : decode cX7_isOrder 133 = .ok (.putfield 165, 3) := by decide +kernel
theorem dX7_isOrder_136 : decode cX7_isOrder 136 = .ok (.aload_n 0, 1) := by decide +kernel
theorem dX7_isOrder_137 : decode cX7_isOrder 137 = .ok (.invokevirtual 184, 3) := by decide +kernel
theorem dX7_isOrder_140 : decode cX7_isOrder 140 = .ok (.ireturn, 1) := by decide +kernel
theorem dX7_isOrder_141 : decode cX7_isOrder 141 = .ok (.iconst 0, 1) := by decide +kernel
theorem dX7_isOrder_142 : decode cX7_isOrder 142 = .ok (.ireturn, 1) := by decide +kernel
set_option maxRecDepth 20000 in
theorem ggX7_isText_X7_isOrder : GoodIn wsX7_isText wsX7_isOrder := goodIn_r _ [8, 1, 3, 9, 10, 2, 11, 12, 13, 7, 14, 15, 16, 17, 18, 19, 20, 21, 22, 23, 24, 25, 26, 27, 28, 29, 30, 31, 32, 33, 34, 35, 36, 37, 38, 39, 40, 41, 42, 43, 44, 45, 46, 47, 48, 49, 50, 51] (by decide +kernel) (by decide +kernel)
set_option maxRecDepth 20000 in
theorem gX7_isText_X7_isOrder : GoodIn wsX7_isText (wsV RX7 187 RX7 yX7_isOrder wsX7_isOrder) := goodIn_app (goodIn_of _ (by decide +kernel)) ggX7_isText_X7_isOrder
set_option maxRecDepth 20000 in
theorem ggX7_isText_X7_isSign : GoodIn wsX7_isText wsX7_isSign := goodIn_r _ [29, 1, 19, 20, 21, 7, 22, 3, 9, 23, 24, 25, 34, 35, 36, 37, 38, 39, 40, 41, 42, 43, 44, 45, 46, 47, 48, 49, 50, 51] (by decide +kernel) (by decide +kernel)
set_option maxRecDepth 20000 in
theorem gX7_isText_X7_isSign : GoodIn wsX7_isText (wsV RX7 177 RX7 yX7_isSign wsX7_isSign) := goodIn_app (goodIn_of _ (by decide +kernel)) ggX7_isText_X7_isSign
theorem dX7_isText_0 : decode cX7_isText 0 = .ok (.aload_n 0, 1) := by decide +kernel
theorem dX7_isText_1 : decode cX7_isText 1 = .ok (.iconst 0, 1) := by decide +kernel
theorem dX7_isText_2 : decode cX7_isText 2 = .ok (.putfield 165, 3) := by decide +kernel
theorem dX7_isText_5 : decode cX7_isText 5 = .ok (.aload_n 0, 1) := by decide +kernel
theorem dX7_isText_6 : decode cX7_isText 6 = .ok (.iconst 0, 1) := by decide +kernel
theorem dX7_isText_7 : decode cX7_isText 7 = .ok (.putfield 171, 3) := by decide +kernel
theorem dX7_isText_10 : decode cX7_isText 10 = .ok (.iconst 1, 1) := by decide +kernel
theorem dX7_isText_11 : decode cX7_isText 11 = .ok (.istore_n 1, 1) := by decide +kernel
theorem dX7_isText_12 : decode cX7_isText 12 = .ok (.iload_n 1, 1) := by decide +kernel
theorem dX7_isText_13 : decode cX7_isText 13 = .ok (.ifCond .eq 32, 3) := by decide +kernel
theorem dX7_isText_16 : decode cX7_isText 16 = .ok (.aload_n 0, 1) := by decide +kernel
theorem dX7_isText_17 : decode cX7_isText 17 = .ok (.invokevirtual 187, 3) := by decide +kernel
theorem dX7_isText_20 : decode cX7_isText 20 = .ok (.ifCond .ne 5, 3) := by decide +kernel
theorem dX7_isText_23 : decode cX7_isText 23 = .ok (.iconst 0, 1) := by decide +kernel
theorem dX7_isText_24 : decode cX7_isText 24 = .ok (.ireturn, 1) := by decide +kernel
theorem dX7_isText_25 : decode cX7_isText 25 = .ok (.aload_n 0, 1) := by decide +kernel
theorem dX7_isText_26 : decode cX7_isText 26 = .ok (.dup, 1) := by decide +kernel
theorem dX7_isText_27 : decode cX7_isText 27 = .ok (.getfield 171, 3) := by decide +kernel
theorem dX7_isText_30 : decode cX7_isText 30 = .ok (.iconst 1, 1) := by decide +kernel
theorem dX7_isText_31 : decode cX7_isText 31 = .ok (.iadd, 1) := by decide +kernel
theorem dX7_isText_32 : decode cX7_isText 32 = .ok (.putfield 171, 3) := by decide +kernel
theorem dX7_isText_35 : decode cX7_isText 35 = .ok (.aload_n 0, 1) := by decide +kernel
theorem dX7_isText_36 : decode cX7_isText 36 = .ok (.bipush 59, 2) := by decide +kernel
theorem dX7_isText_38 : decode cX7_isText 38 = .ok (.invokevirtual 177, 3) := by decide +kernel
theorem dX7_isText_41 : decode cX7_isText 41 = .ok (.istore_n 1, 1) := by decide +kernel
theorem dX7_isText_42 : decode cX7_isText 42 = .ok (.goto (-30), 3) := by decide +kernel
theorem dX7_isText_45 : decode cX7_isText 45 = .ok (.aload_n 0, 1) := by decide +kernel
theorem dX7_isText_46 : decode cX7_isText 46 = .ok (.getfield 165, 3) := by decide +kernel
theorem dX7_isText_49 : decode cX7_isText 49 = .ok (.aload_n 0, 1) := by decide +kernel
theorem dX7_isText_50 : decode cX7_isText 50 = .ok (.getfield 152, 3) := by decide +kernel
theorem dX7_isText_53 : decode cX7_isText 53 = .ok (.if_icmp .ne 7, 3) := by decide +kernel
theorem dX7_isText_56 : decode cX7_isText 56 = .ok (.iconst 1, 1) := by decide +kernel
theorem dX7_isText_57 : decode cX7_isText 57 = .ok (.goto 4, 3) := by decide +kernel
theorem dX7_isText_60 : decode cX7_isText 60 = .ok (.iconst 0, 1) := by decide +kernel
theorem dX7_isText_61 : decode cX7_isText 61 = .ok (.ireturn, 1) := by decide +kernel
set_option maxRecDepth 20000 in
theorem ggX7_fault_X7_isText : GoodIn wsX7_fault wsX7_isText := goodIn_r _ [6, 1, 7, 8, 9, 10, 11, 5, 12, 13, 14, 15, 16, 17, 18, 19, 20, 21, 22, 23, 24, 25, 26, 27, 28, 29, 30, 31, 32, 33, 34, 35, 36, 37, 38, 39, 40, 41, 42, 43, 44, 45, 46, 47, 48, 49, 50, 51, 52, 53, 54, 55] (by decide +kernel) (by decide +kernel)
set_option maxRecDepth 20000 in
theorem gX7_fault_X7_isText : GoodIn wsX7_fault (wsV RX7 190 RX7 yX7_isText wsX7_isText) := goodIn_app (goodIn_of _ (by decide +kernel)) ggX7_fault_X7_isText
theorem dX7_fault_0 : decode cX7_fault 0 = .ok (.aload_n 0, 1) := by decide +kernel
theorem dX7_fault_1 : decode cX7_fault 1 = .ok (.invokevirtual 190, 3) := by decide +kernel
theorem dX7_fault_4 : decode cX7_fault 4 = .ok (.ifCond .eq 8, 3) := by decide +kernel
theorem dX7_fault_7 : decode cX7_fault 7 = .ok (.bipush (-6), 2) := by decide +kernel
theorem dX7_fault_9 : decode cX7_fault 9 = .ok (.goto 7, 3) := by decide +kernel
theorem dX7_fault_12 : decode cX7_fault 12 = .ok (.aload_n 0, 1) := by decide +kernel
theorem dX7_fault_13 : decode cX7_fault 13 = .ok (.getfield 165, 3) := by decide +kernel
theorem dX7_fault_16 : decode cX7_fault 16 = .ok (.ireturn, 1) := by decide +kernel
set_option maxRecDepth 20000 in
theorem ggX7_changesAll_X7_may : GoodIn wsX7_changesAll wsX7_may := goodIn_r _ [5, 6, 7, 8, 4, 9, 10, 11, 12, 20, 21, 22, 23, 24, 25, 26, 27, 28, 29, 30, 31, 32, 33, 34, 35, 36, 37] (by decide +kernel) (by decide +kernel)
set_option maxRecDepth 20000 in
theorem gX7_changesAll_X7_may : GoodIn wsX7_changesAll (wsV RX7 111 RX7 yX7_may wsX7_may) := goodIn_app (goodIn_of _ (by decide +kernel)) ggX7_changesAll_X7_may
set_option maxRecDepth 20000 in
theorem ggX7_changesAll_X7_placeOf : GoodIn wsX7_changesAll wsX7_placeOf := goodIn_r _ [15] (by decide +kernel) (by decide +kernel)
set_option maxRecDepth 20000 in
theorem gX7_changesAll_X7_placeOf : GoodIn wsX7_changesAll (va_wsS RX7 114 yX7_placeOf wsX7_placeOf) := goodIn_app (goodIn_of _ (by decide +kernel)) ggX7_changesAll_X7_placeOf
set_option maxRecDepth 20000 in
theorem ggX7_changesAll_X7_changes : GoodIn wsX7_changesAll wsX7_changes := goodIn_r _ [19, 6, 20, 21, 22, 23, 24, 25, 26, 27, 28, 29, 30, 31, 32, 33, 34, 35, 36, 37] (by decide +kernel) (by decide +kernel)
set_option maxRecDepth 20000 in
theorem gX7_changesAll_X7_changes : GoodIn wsX7_changesAll (wsV RX7 104 RX7 yX7_changes wsX7_changes) := goodIn_app (goodIn_of _ (by decide +kernel)) ggX7_changesAll_X7_changes
theorem dX7_changesAll_0 : decode cX7_changesAll 0 = .ok (.iload_n 2, 1) := by decide +kernel
theorem dX7_changesAll_1 : decode cX7_changesAll 1 = .ok (.istore 5, 2) := by decide +kernel
theorem dX7_changesAll_3 : decode cX7_changesAll 3 = .ok (.iload 5, 2) := by decide +kernel
theorem dX7_changesAll_5 : decode cX7_changesAll 5 = .ok (.iload_n 3, 1) := by decide +kernel
theorem dX7_changesAll_6 : decode cX7_changesAll 6 = .ok (.if_icmp .gt 37, 3) := by decide +kernel
theorem dX7_changesAll_9 : decode cX7_changesAll 9 = .ok (.aload_n 0, 1) := by decide +kernel
theorem dX7_changesAll_10 : decode cX7_changesAll 10 = .ok (.iload_n 1, 1) := by decide +kernel
theorem dX7_changesAll_11 : decode cX7_changesAll 11 = .ok (.iload 5, 2) := by decide +kernel
theorem dX7_changesAll_13 : decode cX7_changesAll 13 = .ok (.iload 4, 2) := by decide +kernel
theorem dX7_changesAll_15 : decode cX7_changesAll 15 = .ok (.invokevirtual 111, 3) := by decide +kernel
theorem dX7_changesAll_18 : decode cX7_changesAll 18 = .ok (.ifCond .eq 5, 3) := by decide +kernel
theorem dX7_changesAll_21 : decode cX7_changesAll 21 = .ok (.iconst 0, 1) := by decide +kernel
theorem dX7_changesAll_22 : decode cX7_changesAll 22 = .ok (.ireturn, 1) := by decide +kernel
theorem dX7_changesAll_23 : decode cX7_changesAll 23 = .ok (.aload_n 0, 1) := by decide +kernel
theorem dX7_changesAll_24 : decode cX7_changesAll 24 = .ok (.iload_n 1, 1) := by decide +kernel
theorem dX7_changesAll_25 : decode cX7_changesAll 25 = .ok (.invokestatic 114, 3) := by decide +kernel
theorem dX7_changesAll_28 : decode cX7_changesAll 28 = .ok (.iload 5, 2) := by decide +kernel
theorem dX7_changesAll_30 : decode cX7_changesAll 30 = .ok (.iadd, 1) := by decide +kernel
theorem dX7_changesAll_31 : decode cX7_changesAll 31 = .ok (.iload 4, 2) := by decide +kernel
theorem dX7_changesAll_33 : decode cX7_changesAll 33 = .ok (.invokevirtual 104, 3) := by decide +kernel
theorem dX7_changesAll_36 : decode cX7_changesAll 36 = .ok (.pop, 1) := by decide +kernel
theorem dX7_changesAll_37 : decode cX7_changesAll 37 = .ok (.iinc 5 1, 3) := by decide +kernel
theorem dX7_changesAll_40 : decode cX7_changesAll 40 = .ok (.goto (-37), 3) := by decide +kernel
theorem dX7_changesAll_43 : decode cX7_changesAll 43 = .ok (.iload_n 2, 1) := by decide +kernel
theorem dX7_changesAll_44 : decode cX7_changesAll 44 = .ok (.iload_n 3, 1) := by decide +kernel
theorem dX7_changesAll_45 : decode cX7_changesAll 45 = .ok (.if_icmp .gt 7, 3) := by decide +kernel
theorem dX7_changesAll_48 : decode cX7_changesAll 48 = .ok (.iconst 1, 1) := by decide +kernel
theorem dX7_changesAll_49 : decode cX7_changesAll 49 = .ok (.goto 4, 3) := by decide +kernel
theorem dX7_changesAll_52 : decode cX7_changesAll 52 = .ok (.iconst 0, 1) := by decide +kernel
theorem dX7_changesAll_53 : decode cX7_changesAll 53 = .ok (.ireturn, 1) := by decide +kernel
set_option maxRecDepth 20000 in
theorem ggX7_does_X7_isPlanned : GoodIn wsX7_does wsX7_isPlanned := goodIn_r _ [6, 7, 8, 9, 10, 11, 12, 5, 13, 14, 15, 16, 17, 18, 19, 20, 21, 22, 23, 24, 25, 26, 27, 28, 29, 30, 31, 32, 33, 34, 35, 36, 37, 38, 39, 77, 78, 79, 80, 81, 82, 83, 84, 85, 86, 87, 88, 89, 90, 91, 92, 93, 94] (by decide +kernel) (by decide +kernel)
set_option maxRecDepth 20000 in
theorem gX7_does_X7_isPlanned : GoodIn wsX7_does (wsV RX7 130 RX7 yX7_isPlanned wsX7_isPlanned) := goodIn_app (goodIn_of _ (by decide +kernel)) ggX7_does_X7_isPlanned
set_option maxRecDepth 20000 in
theorem ggX7_does_X7_adopts : GoodIn wsX7_does wsX7_adopts := goodIn_r _ [43, 8, 18, 44, 45, 46, 5, 47, 7, 14, 15, 16, 17, 9, 19, 20, 21, 22, 23, 24, 25, 26, 27, 28, 29, 30, 31, 32, 33, 34, 35, 36, 37, 38, 39, 77, 78, 79, 80, 81, 82, 83, 84, 85, 86, 87, 88, 89, 90, 91, 92, 93, 94] (by decide +kernel) (by decide +kernel)
set_option maxRecDepth 20000 in
theorem gX7_does_X7_adopts : GoodIn wsX7_does (wsV RX7 134 RX7 yX7_adopts wsX7_adopts) := goodIn_app (goodIn_of _ (by decide +kernel)) ggX7_does_X7_adopts
set_option maxRecDepth 20000 in
theorem ggX7_does_X7_mayContract : GoodIn wsX7_does wsX7_mayContract := goodIn_r _ [51, 8, 52, 53, 5, 54, 55, 56, 57, 77, 78, 79, 80, 81, 82, 83, 84, 85, 86, 87, 88, 89, 90, 91, 92, 93, 94] (by decide +kernel) (by decide +kernel)
set_option maxRecDepth 20000 in
theorem gX7_does_X7_mayContract : GoodIn wsX7_does (wsV RX7 120 RX7 yX7_mayContract wsX7_mayContract) := goodIn_app (goodIn_of _ (by decide +kernel)) ggX7_does_X7_mayContract
set_option maxRecDepth 20000 in
theorem ggX7_does_X7_comes : GoodIn wsX7_does wsX7_comes := goodIn_r _ [61, 8, 77, 78, 79, 80, 81, 82, 83, 84, 85, 86, 87, 88, 89, 90, 91, 92, 93, 94] (by decide +kernel) (by decide +kernel)
set_option maxRecDepth 20000 in
theorem gX7_does_X7_comes : GoodIn wsX7_does (wsV RX7 124 RX7 yX7_comes wsX7_comes) := goodIn_app (goodIn_of _ (by decide +kernel)) ggX7_does_X7_comes
set_option maxRecDepth 20000 in
theorem ggX7_does_X7_changesAll : GoodIn wsX7_does wsX7_changesAll := goodIn_r _ [65, 66, 67, 68, 5, 69, 8, 52, 53, 54, 55, 56, 57, 70, 71, 72, 73, 74, 75, 76, 77, 78, 79, 80, 81, 82, 83, 84, 85, 86, 87, 88, 89, 90, 91, 92, 93, 94] (by decide +kernel) (by decide +kernel)
set_option maxRecDepth 20000 in
theorem gX7_does_X7_changesAll : GoodIn wsX7_does (wsV RX7 193 RX7 yX7_changesAll wsX7_changesAll) := goodIn_app (goodIn_of _ (by decide +kernel)) ggX7_does_X7_changesAll
theorem dX7_does_0 : decode cX7_does 0 = .ok (.aload_n 0, 1) := by decide +kernel
theorem dX7_does_1 : decode cX7_does 1 = .ok (.getfield 26, 3) := by decide +kernel
theorem dX7_does_4 : decode cX7_does 4 = .ok (.iconst 5, 1) := by decide +kernel
theorem dX7_does_5 : decode cX7_does 5 = .ok (.iload_n 1, 1) := by decide +kernel
theorem dX7_does_6 : decode cX7_does 6 = .ok (.imul, 1) := by decide +kernel
theorem dX7_does_7 : decode cX7_does 7 = .ok (.iaload, 1) := by decide +kernel
theorem dX7_does_8 : decode cX7_does 8 = .ok (.istore_n 2, 1) := by decide +kernel
theorem dX7_does_9 : decode cX7_does 9 = .ok (.aload_n 0, 1) := by decide +kernel
theorem dX7_does_10 : decode cX7_does 10 = .ok (.getfield 26, 3) := by decide +kernel
theorem dX7_does_13 : decode cX7_does 13 = .ok (.iconst 5, 1) := by decide +kernel
theorem dX7_does_14 : decode cX7_does 14 = .ok (.iload_n 1, 1) := by decide +kernel
theorem dX7_does_15 : decode cX7_does 15 = .ok (.imul, 1) := by decide +kernel
theorem dX7_does_16 : decode cX7_does 16 = .ok (.iconst 1, 1) := by decide +kernel
theorem dX7_does_17 : decode cX7_does 17 = .ok (.iadd, 1) := by decide +kernel
theorem dX7_does_18 : decode cX7_does 18 = .ok (.iaload, 1) := by decide +kernel
theorem dX7_does_19 : decode cX7_does 19 = .ok (.istore_n 3, 1) := by decide +kernel
theorem dX7_does_20 : decode cX7_does 20 = .ok (.aload_n 0, 1) := by decide +kernel
theorem dX7_does_21 : decode cX7_does 21 = .ok (.getfield 26, 3) := by decide +kernel
theorem dX7_does_24 : decode cX7_does 24 = .ok (.iconst 5, 1) := by decide +kernel
theorem dX7_does_25 : decode cX7_does 25 = .ok (.iload_n 1, 1) := by decide +kernel
theorem dX7_does_26 : decode cX7_does 26 = .ok (.imul, 1) := by decide +kernel
theorem dX7_does_27 : decode cX7_does 27 = .ok (.iconst 2, 1) := by decide +kernel
theorem dX7_does_28 : decode cX7_does 28 = .ok (.iadd, 1) := by decide +kernel
theorem dX7_does_29 : decode cX7_does 29 = .ok (.iaload, 1) := by decide +kernel
theorem dX7_does_30 : decode cX7_does 30 = .ok (.istore 4, 2) := by decide +kernel
theorem dX7_does_32 : decode cX7_does 32 = .ok (.aload_n 0, 1) := by decide +kernel
theorem dX7_does_33 : decode cX7_does 33 = .ok (.getfield 26, 3) := by decide +kernel
theorem dX7_does_36 : decode cX7_does 36 = .ok (.iconst 5, 1) := by decide +kernel
theorem dX7_does_37 : decode cX7_does 37 = .ok (.iload_n 1, 1) := by decide +kernel
theorem dX7_does_38 : decode cX7_does 38 = .ok (.imul, 1) := by decide +kernel
theorem dX7_does_39 : decode cX7_does 39 = .ok (.iconst 3, 1) := by decide +kernel
theorem dX7_does_40 : decode cX7_does 40 = .ok (.iadd, 1) := by decide +kernel
theorem dX7_does_41 : decode cX7_does 41 = .ok (.iaload, 1) := by decide +kernel
theorem dX7_does_42 : decode cX7_does 42 = .ok (.istore 5, 2) := by decide +kernel
theorem dX7_does_44 : decode cX7_does 44 = .ok (.aload_n 0, 1) := by decide +kernel
theorem dX7_does_45 : decode cX7_does 45 = .ok (.getfield 26, 3) := by decide +kernel
theorem dX7_does_48 : decode cX7_does 48 = .ok (.iconst 5, 1) := by decide +kernel
theorem dX7_does_49 : decode cX7_does 49 = .ok (.iload_n 1, 1) := by decide +kernel
theorem dX7_does_50 : decode cX7_does 50 = .ok (.imul, 1) := by decide +kernel
theorem dX7_does_51 : decode cX7_does 51 = .ok (.iconst 4, 1) := by decide +kernel
theorem dX7_does_52 : decode cX7_does 52 = .ok (.iadd, 1) := by decide +kernel
theorem dX7_does_53 : decode cX7_does 53 = .ok (.iaload, 1) := by decide +kernel
theorem dX7_does_54 : decode cX7_does 54 = .ok (.istore 6, 2) := by decide +kernel
theorem dX7_does_56 : decode cX7_does 56 = .ok (.iload_n 2, 1) := by decide +kernel
theorem dX7_does_57 : decode cX7_does 57 = .ok (.lookupswitch 87 #[(97, 27), (99, 46)], 27) := by decide +kernel
theorem dX7_does_84 : decode cX7_does 84 = .ok (.aload_n 0, 1) := by decide +kernel
theorem dX7_does_85 : decode cX7_does 85 = .ok (.invokevirtual 130, 3) := by decide +kernel
theorem dX7_does_88 : decode cX7_does 88 = .ok (.istore 7, 2) := by decide +kernel
theorem dX7_does_90 : decode cX7_does 90 = .ok (.iload 7, 2) := by decide +kernel
theorem dX7_does_92 : decode cX7_does 92 = .ok (.ifCond .eq 8, 3) := by decide +kernel
theorem dX7_does_95 : decode cX7_does 95 = .ok (.aload_n 0, 1) := by decide +kernel
theorem dX7_does_96 : decode cX7_does 96 = .ok (.invokevirtual 134, 3) := by decide +kernel
theorem dX7_does_99 : decode cX7_does 99 = .ok (.pop, 1) := by decide +kernel
theorem dX7_does_100 : decode cX7_does 100 = .ok (.iload 7, 2) := by decide +kernel
theorem dX7_does_102 : decode cX7_does 102 = .ok (.ireturn, 1) := by decide +kernel
theorem dX7_does_103 : decode cX7_does 103 = .ok (.aload_n 0, 1) := by decide +kernel
theorem dX7_does_104 : decode cX7_does 104 = .ok (.iload_n 3, 1) := by decide +kernel
theorem dX7_does_105 : decode cX7_does 105 = .ok (.iload 4, 2) := by decide +kernel
theorem dX7_does_107 : decode cX7_does 107 = .ok (.iload 5, 2) := by decide +kernel
theorem dX7_does_109 : decode cX7_does 109 = .ok (.iload 6, 2) := by decide +kernel
theorem dX7_does_111 : decode cX7_does 111 = .ok (.invokevirtual 120, 3) := by decide +kernel
theorem dX7_does_114 : decode cX7_does 114 = .ok (.ifCond .ne 7, 3) := by decide +kernel
theorem dX7_does_117 : decode cX7_does 117 = .ok (.iconst 1, 1) := by decide +kernel
theorem dX7_does_118 : decode cX7_does 118 = .ok (.goto 4, 3) := by decide +kernel
theorem dX7_does_121 : decode cX7_does 121 = .ok (.iconst 0, 1) := by decide +kernel
theorem dX7_does_122 : decode cX7_does 122 = .ok (.istore 8, 2) := by decide +kernel
theorem dX7_does_124 : decode cX7_does 124 = .ok (.iload 8, 2) := by decide +kernel
theorem dX7_does_126 : decode cX7_does 126 = .ok (.ifCond .eq 15, 3) := by decide +kernel
theorem dX7_does_129 : decode cX7_does 129 = .ok (.aload_n 0, 1) := by decide +kernel
theorem dX7_does_130 : decode cX7_does 130 = .ok (.iload_n 3, 1) := by decide +kernel
theorem dX7_does_131 : decode cX7_does 131 = .ok (.iload 4, 2) := by decide +kernel
theorem dX7_does_133 : decode cX7_does 133 = .ok (.iload 5, 2) := by decide +kernel
theorem dX7_does_135 : decode cX7_does 135 = .ok (.iload 6, 2) := by decide +kernel
theorem dX7_does_137 : decode cX7_does 137 = .ok (.invokevirtual 124, 3) := by decide +kernel
theorem dX7_does_140 : decode cX7_does 140 = .ok (.pop, 1) := by decide +kernel
theorem dX7_does_141 : decode cX7_does 141 = .ok (.iload 8, 2) := by decide +kernel
theorem dX7_does_143 : decode cX7_does 143 = .ok (.ireturn, 1) := by decide +kernel
theorem dX7_does_144 : decode cX7_does 144 = .ok (.aload_n 0, 1) := by decide +kernel
theorem dX7_does_145 : decode cX7_does 145 = .ok (.iload_n 2, 1) := by decide +kernel
theorem dX7_does_146 : decode cX7_does 146 = .ok (.bipush 112, 2) := by decide +kernel
theorem dX7_does_148 : decode cX7_does 148 = .ok (.if_icmp .ne 7, 3) := by decide +kernel
theorem dX7_does_151 : decode cX7_does 151 = .ok (.iconst 1, 1) := by decide +kernel
theorem dX7_does_152 : decode cX7_does 152 = .ok (.goto 14, 3) := by decide +kernel
theorem dX7_does_155 : decode cX7_does 155 = .ok (.iload_n 2, 1) := by decide +kernel
theorem dX7_does_156 : decode cX7_does 156 = .ok (.bipush 105, 2) := by decide +kernel
theorem dX7_does_158 : decode cX7_does 158 = .ok (.if_icmp .ne 7, 3) := by decide +kernel
theorem dX7_does_161 : decode cX7_does 161 = .ok (.iconst 2, 1) := by decide +kernel
theorem dX7_does_162 : decode cX7_does 162 = .ok (.goto 4, 3) := by decide +kernel
theorem dX7_does_165 : decode cX7_does 165 = .ok (.iconst 3, 1) := by decide +kernel
theorem dX7_does_166 : decode cX7_does 166 = .ok (.iload_n 3, 1) := by decide +kernel
theorem dX7_does_167 : decode cX7_does 167 = .ok (.iload 4, 2) := by decide +kernel
theorem dX7_does_169 : decode cX7_does 169 = .ok (.iload 5, 2) := by decide +kernel
theorem dX7_does_171 : decode cX7_does 171 = .ok (.invokevirtual 193, 3) := by decide +kernel
theorem dX7_does_174 : decode cX7_does 174 = .ok (.ireturn, 1) := by decide +kernel
set_option maxRecDepth 20000 in
theorem ggX7_carryOut_X7_isText : GoodIn wsX7_carryOut wsX7_isText := goodIn_r _ [7, 8, 2, 1, 9, 10, 11, 6, 12, 13, 14, 15, 16, 17, 18, 19, 20, 21, 22, 23, 24, 25, 26, 27, 28, 29, 30, 31, 32, 33, 34, 35, 36, 37, 122, 123, 124, 125, 126, 127, 128, 129, 130, 131, 132, 133, 134, 135, 136, 137, 138, 139] (by decide +kernel) (by decide +kernel)
set_option maxRecDepth 20000 in
theorem gX7_carryOut_X7_isText : GoodIn wsX7_carryOut (wsV RX7 190 RX7 yX7_isText wsX7_isText) := goodIn_app (goodIn_of _ (by decide +kernel)) ggX7_carryOut_X7_isText
set_option maxRecDepth 20000 in
theorem ggX7_carryOut_X7_records : GoodIn wsX7_carryOut wsX7_records := goodIn_r _ [41, 42, 43, 44, 45, 46, 6, 47, 122, 123, 124, 125, 126, 127, 128, 129, 130, 131, 132, 133, 134, 135, 136, 137, 138, 139] (by decide +kernel) (by decide +kernel)
set_option maxRecDepth 20000 in
theorem gX7_carryOut_X7_records : GoodIn wsX7_carryOut (wsV RX7 51 RX7 yX7_records wsX7_records) := goodIn_app (goodIn_of _ (by decide +kernel)) ggX7_carryOut_X7_records
set_option maxRecDepth 20000 in
theorem ggX7_carryOut_X7_does : GoodIn wsX7_carryOut wsX7_does := goodIn_r _ [51, 14, 52, 53, 54, 6, 55, 56, 44, 57, 58, 59, 60, 61, 62, 63, 64, 65, 66, 67, 68, 69, 70, 71, 72, 73, 74, 75, 76, 77, 78, 79, 80, 81, 82, 83, 84, 85, 86, 87, 88, 89, 90, 91, 92, 93, 94, 95, 96, 97, 98, 99, 100, 101, 102, 27, 28, 29, 103, 104, 105, 106, 107, 108, 109, 110, 111, 112, 113, 114, 115, 116, 117, 118, 119, 120, 121, 122, 123, 124, 125, 126, 127, 128, 129, 130, 131, 132, 133, 134, 135, 136, 137, 138, 139] (by decide +kernel) (by decide +kernel)
set_option maxRecDepth 20000 in
theorem gX7_carryOut_X7_does : GoodIn wsX7_carryOut (wsV RX7 197 RX7 yX7_does wsX7_does) := goodIn_app (goodIn_of _ (by decide +kernel)) ggX7_carryOut_X7_does
theorem dX7_carryOut_0 : decode cX7_carryOut 0 = .ok (.aload_n 0, 1) := by decide +kernel
theorem dX7_carryOut_1 : decode cX7_carryOut 1 = .ok (.invokevirtual 190, 3) := by decide +kernel
theorem dX7_carryOut_4 : decode cX7_carryOut 4 = .ok (.ifCond .ne 6, 3) := by decide +kernel
theorem dX7_carryOut_7 : decode cX7_carryOut 7 = .ok (.bipush (-3), 2) := by decide +kernel
theorem dX7_carryOut_9 : decode cX7_carryOut 9 = .ok (.ireturn, 1) := by decide +kernel
theorem dX7_carryOut_10 : decode cX7_carryOut 10 = .ok (.aload_n 0, 1) := by decide +kernel
theorem dX7_carryOut_11 : decode cX7_carryOut 11 = .ok (.invokevirtual 51, 3) := by decide +kernel
theorem dX7_carryOut_14 : decode cX7_carryOut 14 = .ok (.aload_n 0, 1) := by decide +kernel
theorem dX7_carryOut_15 : decode cX7_carryOut 15 = .ok (.iconst 0, 1) := by decide +kernel
theorem dX7_carryOut_16 : decode cX7_carryOut 16 = .ok (.putfield 152, 3) := by decide +kernel
theorem dX7_carryOut_19 : decode cX7_carryOut 19 = .ok (.iconst 0, 1) := by decide +kernel
theorem dX7_carryOut_20 : decode cX7_carryOut 20 = .ok (.istore_n 1, 1) := by decide +kernel
theorem dX7_carryOut_21 : decode cX7_carryOut 21 = .ok (.iload_n 1, 1) := by decide +kernel
theorem dX7_carryOut_22 : decode cX7_carryOut 22 = .ok (.aload_n 0, 1) := by decide +kernel
theorem dX7_carryOut_23 : decode cX7_carryOut 23 = .ok (.getfield 171, 3) := by decide +kernel
theorem dX7_carryOut_26 : decode cX7_carryOut 26 = .ok (.if_icmp .ge 17, 3) := by decide +kernel
theorem dX7_carryOut_29 : decode cX7_carryOut 29 = .ok (.aload_n 0, 1) := by decide +kernel
theorem dX7_carryOut_30 : decode cX7_carryOut 30 = .ok (.iload_n 1, 1) := by decide +kernel
theorem dX7_carryOut_31 : decode cX7_carryOut 31 = .ok (.invokevirtual 197, 3) := by decide +kernel
theorem dX7_carryOut_34 : decode cX7_carryOut 34 = .ok (.ifCond .eq 9, 3) := by decide +kernel
theorem dX7_carryOut_37 : decode cX7_carryOut 37 = .ok (.iinc 1 1, 3) := by decide +kernel
theorem dX7_carryOut_40 : decode cX7_carryOut 40 = .ok (.goto (-19), 3) := by decide +kernel
theorem dX7_carryOut_43 : decode cX7_carryOut 43 = .ok (.iload_n 1, 1) := by decide +kernel
theorem dX7_carryOut_44 : decode cX7_carryOut 44 = .ok (.ireturn, 1) := by decide +kernel
theorem dJ6_bitCount_0f7a4_0 : decode cJ6_bitCount_0f7a4 0 = .ok (.iload_n 0, 1) := by decide +kernel
theorem dJ6_bitCount_0f7a4_1 : decode cJ6_bitCount_0f7a4 1 = .ok (.iload_n 0, 1) := by decide +kernel
theorem dJ6_bitCount_0f7a4_2 : decode cJ6_bitCount_0f7a4 2 = .ok (.iconst 1, 1) := by decide +kernel
theorem dJ6_bitCount_0f7a4_3 : decode cJ6_bitCount_0f7a4 3 = .ok (.iushr, 1) := by decide +kernel
theorem dJ6_bitCount_0f7a4_4 : decode cJ6_bitCount_0f7a4 4 = .ok (.ldc_w 265, 3) := by decide +kernel
theorem dJ6_bitCount_0f7a4_7 : decode cJ6_bitCount_0f7a4 7 = .ok (.iand, 1) := by decide +kernel
theorem dJ6_bitCount_0f7a4_8 : decode cJ6_bitCount_0f7a4 8 = .ok (.isub, 1) := by decide +kernel
theorem dJ6_bitCount_0f7a4_9 : decode cJ6_bitCount_0f7a4 9 = .ok (.istore_n 0, 1) := by decide +kernel
theorem dJ6_bitCount_0f7a4_10 : decode cJ6_bitCount_0f7a4 10 = .ok (.iload_n 0, 1) := by decide +kernel
theorem dJ6_bitCount_0f7a4_11 : decode cJ6_bitCount_0f7a4 11 = .ok (.ldc_w 266, 3) := by decide +kernel
theorem dJ6_bitCount_0f7a4_14 : decode cJ6_bitCount_0f7a4 14 = .ok (.iand, 1) := by decide +kernel
theorem dJ6_bitCount_0f7a4_15 : decode cJ6_bitCount_0f7a4 15 = .ok (.iload_n 0, 1) := by decide +kernel
theorem dJ6_bitCount_0f7a4_16 : decode cJ6_bitCount_0f7a4 16 = .ok (.iconst 2, 1) := by decide +kernel
theorem dJ6_bitCount_0f7a4_17 : decode cJ6_bitCount_0f7a4 17 = .ok (.iushr, 1) := by decide +kernel
theorem dJ6_bitCount_0f7a4_18 : decode cJ6_bitCount_0f7a4 18 = .ok (.ldc_w 266, 3) := by decide +kernel
theorem dJ6_bitCount_0f7a4_21 : decode cJ6_bitCount_0f7a4 21 = .ok (.iand, 1) := by decide +kernel
theorem dJ6_bitCount_0f7a4_22 : decode cJ6_bitCount_0f7a4 22 = .ok (.iadd, 1) := by decide +kernel
theorem dJ6_bitCount_0f7a4_23 : decode cJ6_bitCount_0f7a4 23 = .ok (.istore_n 0, 1) := by decide +kernel
theorem dJ6_bitCount_0f7a4_24 : decode cJ6_bitCount_0f7a4 24 = .ok (.iload_n 0, 1) := by decide +kernel
theorem dJ6_bitCount_0f7a4_25 : decode cJ6_bitCount_0f7a4 25 = .ok (.iload_n 0, 1) := by decide +kernel
theorem dJ6_bitCount_0f7a4_26 : decode cJ6_bitCount_0f7a4 26 = .ok (.iconst 4, 1) := by decide +kernel
theorem dJ6_bitCount_0f7a4_27 : decode cJ6_bitCount_0f7a4 27 = .ok (.iushr, 1) := by decide +kernel
theorem dJ6_bitCount_0f7a4_28 : decode cJ6_bitCount_0f7a4 28 = .ok (.iadd, 1) := by decide +kernel
theorem dJ6_bitCount_0f7a4_29 : decode cJ6_bitCount_0f7a4 29 = .ok (.ldc_w 267, 3) := by decide +kernel
theorem dJ6_bitCount_0f7a4_32 : decode cJ6_bitCount_0f7a4 32 = .ok (.iand, 1) := by decide +kernel
theorem dJ6_bitCount_0f7a4_33 : decode cJ6_bitCount_0f7a4 33 = .ok (.istore_n 0, 1) := by decide +kernel
theorem dJ6_bitCount_0f7a4_34 : decode cJ6_bitCount_0f7a4 34 = .ok (.iload_n 0, 1) := by decide +kernel
theorem dJ6_bitCount_0f7a4_35 : decode cJ6_bitCount_0f7a4 35 = .ok (.iload_n 0, 1) := by decide +kernel
theorem dJ6_bitCount_0f7a4_36 : decode cJ6_bitCount_0f7a4 36 = .ok (.bipush 8, 2) := by decide +kernel
theorem dJ6_bitCount_0f7a4_38 : decode cJ6_bitCount_0f7a4 38 = .ok (.iushr, 1) := by decide +kernel
theorem dJ6_bitCount_0f7a4_39 : decode cJ6_bitCount_0f7a4 39 = .ok (.iadd, 1) := by decide +kernel
theorem dJ6_bitCount_0f7a4_40 : decode cJ6_bitCount_0f7a4 40 = .ok (.istore_n 0, 1) := by decide +kernel
theorem dJ6_bitCount_0f7a4_41 : decode cJ6_bitCount_0f7a4 41 = .ok (.iload_n 0, 1) := by decide +kernel
theorem dJ6_bitCount_0f7a4_42 : decode cJ6_bitCount_0f7a4 42 = .ok (.iload_n 0, 1) := by decide +kernel
theorem dJ6_bitCount_0f7a4_43 : decode cJ6_bitCount_0f7a4 43 = .ok (.bipush 16, 2) := by decide +kernel
theorem dJ6_bitCount_0f7a4_45 : decode cJ6_bitCount_0f7a4 45 = .ok (.iushr, 1) := by decide +kernel
theorem dJ6_bitCount_0f7a4_46 : decode cJ6_bitCount_0f7a4 46 = .ok (.iadd, 1) := by decide +kernel
theorem dJ6_bitCount_0f7a4_47 : decode cJ6_bitCount_0f7a4 47 = .ok (.istore_n 0, 1) := by decide +kernel
theorem dJ6_bitCount_0f7a4_48 : decode cJ6_bitCount_0f7a4 48 = .ok (.iload_n 0, 1) := by decide +kernel
theorem dJ6_bitCount_0f7a4_49 : decode cJ6_bitCount_0f7a4 49 = .ok (.bipush 63, 2) := by decide +kernel
theorem dJ6_bitCount_0f7a4_51 : decode cJ6_bitCount_0f7a4 51 = .ok (.iand, 1) := by decide +kernel
theorem dJ6_bitCount_0f7a4_52 : decode cJ6_bitCount_0f7a4 52 = .ok (.ireturn, 1) := by decide +kernel
theorem dJ9_max_7cf53_0 : decode cJ9_max_7cf53 0 = .ok (.iload_n 0, 1) := by decide +kernel
theorem dJ9_max_7cf53_1 : decode cJ9_max_7cf53 1 = .ok (.iload_n 1, 1) := by decide +kernel
theorem dJ9_max_7cf53_2 : decode cJ9_max_7cf53 2 = .ok (.if_icmp .lt 7, 3) := by decide +kernel
theorem dJ9_max_7cf53_5 : decode cJ9_max_7cf53 5 = .ok (.iload_n 0, 1) := by decide +kernel
theorem dJ9_max_7cf53_6 : decode cJ9_max_7cf53 6 = .ok (.goto 4, 3) := by decide +kernel
theorem dJ9_max_7cf53_9 : decode cJ9_max_7cf53 9 = .ok (.iload_n 1, 1) := by decide +kernel
theorem dJ9_max_7cf53_10 : decode cJ9_max_7cf53 10 = .ok (.ireturn, 1) := by decide +kernel
theorem dJ9_min_7cf53_0 : decode cJ9_min_7cf53 0 = .ok (.iload_n 0, 1) := by decide +kernel
theorem dJ9_min_7cf53_1 : decode cJ9_min_7cf53 1 = .ok (.iload_n 1, 1) := by decide +kernel
theorem dJ9_min_7cf53_2 : decode cJ9_min_7cf53 2 = .ok (.if_icmp .gt 7, 3) := by decide +kernel
theorem dJ9_min_7cf53_5 : decode cJ9_min_7cf53 5 = .ok (.iload_n 0, 1) := by decide +kernel
theorem dJ9_min_7cf53_6 : decode cJ9_min_7cf53 6 = .ok (.goto 4, 3) := by decide +kernel
theorem dJ9_min_7cf53_9 : decode cJ9_min_7cf53 9 = .ok (.iload_n 1, 1) := by decide +kernel
theorem dJ9_min_7cf53_10 : decode cJ9_min_7cf53 10 = .ok (.ireturn, 1) := by decide +kernel
